section
-- ===== PART A: goes FIRST, ahead of the names: the tables' words, and 'selects' of the private methods out of them =====
/-- a private method of a class that the tables say can be made, by its rows of tables_1 -/
def lw_okq (q : MethodName × Nat) : Prop := (q.1.cls ≠ "java/lang/invoke/MethodHandle" ∧ q.1.cls ≠ "java/lang/invoke/VarHandle") ∧ Cond.instantiable q.1.cls q.2 ∈ tables_1 ∧ Cond.privateMethod q.1 ∈ tables_1 ∧ Cond.instanceMethod q.1 ∈ tables_1
theorem lw_p0 : lw_okq (⟨"CoastLamps", "made", "(II)LCoastLamps$Lamp;"⟩, 7) := ⟨⟨by decide +kernel, by decide +kernel⟩, List.mem_of_getElem? (i := 16) (by decide +kernel), List.mem_of_getElem? (i := 85) (by decide +kernel), List.mem_of_getElem? (i := 86) (by decide +kernel)⟩
theorem lw_p1 : lw_okq (⟨"CoastLamps", "lampAt", "(I)LCoastLamps$Lamp;"⟩, 7) := ⟨⟨by decide +kernel, by decide +kernel⟩, List.mem_of_getElem? (i := 16) (by decide +kernel), List.mem_of_getElem? (i := 256) (by decide +kernel), List.mem_of_getElem? (i := 257) (by decide +kernel)⟩
theorem lw_p2 : lw_okq (⟨"CoastLamps", "beginAct", "()V"⟩, 7) := ⟨⟨by decide +kernel, by decide +kernel⟩, List.mem_of_getElem? (i := 16) (by decide +kernel), List.mem_of_getElem? (i := 261) (by decide +kernel), List.mem_of_getElem? (i := 262) (by decide +kernel)⟩
theorem lw_p3 : lw_okq (⟨"CoastLamps", "anyLit", "()Z"⟩, 7) := ⟨⟨by decide +kernel, by decide +kernel⟩, List.mem_of_getElem? (i := 16) (by decide +kernel), List.mem_of_getElem? (i := 543) (by decide +kernel), List.mem_of_getElem? (i := 544) (by decide +kernel)⟩
theorem lw_p4 : lw_okq (⟨"CoastLampsModel", "isLamp", "(I)Z"⟩, 13) := ⟨⟨by decide +kernel, by decide +kernel⟩, List.mem_of_getElem? (i := 585) (by decide +kernel), List.mem_of_getElem? (i := 647) (by decide +kernel), List.mem_of_getElem? (i := 648) (by decide +kernel)⟩
theorem lw_p5 : lw_okq (⟨"CoastLampsModel", "act", "()V"⟩, 13) := ⟨⟨by decide +kernel, by decide +kernel⟩, List.mem_of_getElem? (i := 585) (by decide +kernel), List.mem_of_getElem? (i := 652) (by decide +kernel), List.mem_of_getElem? (i := 653) (by decide +kernel)⟩
theorem lw_p6 : lw_okq (⟨"CoastLampsModel", "isHorned", "(I)Z"⟩, 13) := ⟨⟨by decide +kernel, by decide +kernel⟩, List.mem_of_getElem? (i := 585) (by decide +kernel), List.mem_of_getElem? (i := 656) (by decide +kernel), List.mem_of_getElem? (i := 657) (by decide +kernel)⟩
theorem lw_p7 : lw_okq (⟨"CoastLampsModel", "burn", "(II)I"⟩, 13) := ⟨⟨by decide +kernel, by decide +kernel⟩, List.mem_of_getElem? (i := 585) (by decide +kernel), List.mem_of_getElem? (i := 661) (by decide +kernel), List.mem_of_getElem? (i := 662) (by decide +kernel)⟩
theorem lw_p8 : lw_okq (⟨"CoastLampsModel", "burnOil", "(II)I"⟩, 13) := ⟨⟨by decide +kernel, by decide +kernel⟩, List.mem_of_getElem? (i := 585) (by decide +kernel), List.mem_of_getElem? (i := 665) (by decide +kernel), List.mem_of_getElem? (i := 666) (by decide +kernel)⟩
theorem lw_p9 : lw_okq (⟨"CoastLampsModel", "begins", "(I)V"⟩, 13) := ⟨⟨by decide +kernel, by decide +kernel⟩, List.mem_of_getElem? (i := 585) (by decide +kernel), List.mem_of_getElem? (i := 669) (by decide +kernel), List.mem_of_getElem? (i := 670) (by decide +kernel)⟩
theorem lw_p10 : lw_okq (⟨"CoastLampsModel", "burnLamp", "(II)I"⟩, 13) := ⟨⟨by decide +kernel, by decide +kernel⟩, List.mem_of_getElem? (i := 585) (by decide +kernel), List.mem_of_getElem? (i := 673) (by decide +kernel), List.mem_of_getElem? (i := 674) (by decide +kernel)⟩
theorem lw_p11 : lw_okq (⟨"CoastLampsModel", "burnTwin", "(II)I"⟩, 13) := ⟨⟨by decide +kernel, by decide +kernel⟩, List.mem_of_getElem? (i := 585) (by decide +kernel), List.mem_of_getElem? (i := 677) (by decide +kernel), List.mem_of_getElem? (i := 678) (by decide +kernel)⟩
theorem lw_p12 : lw_okq (⟨"CoastLampsModel", "burnSwing", "(II)I"⟩, 13) := ⟨⟨by decide +kernel, by decide +kernel⟩, List.mem_of_getElem? (i := 585) (by decide +kernel), List.mem_of_getElem? (i := 681) (by decide +kernel), List.mem_of_getElem? (i := 682) (by decide +kernel)⟩
theorem lw_p13 : lw_okq (⟨"CoastLampsModel", "burnOuter", "(II)I"⟩, 13) := ⟨⟨by decide +kernel, by decide +kernel⟩, List.mem_of_getElem? (i := 585) (by decide +kernel), List.mem_of_getElem? (i := 685) (by decide +kernel), List.mem_of_getElem? (i := 686) (by decide +kernel)⟩
theorem lw_p14 : lw_okq (⟨"CoastLampsModel", "burnFlare", "(II)I"⟩, 13) := ⟨⟨by decide +kernel, by decide +kernel⟩, List.mem_of_getElem? (i := 585) (by decide +kernel), List.mem_of_getElem? (i := 689) (by decide +kernel), List.mem_of_getElem? (i := 690) (by decide +kernel)⟩
theorem lw_p15 : lw_okq (⟨"CoastLampsModel", "reach", "(II)I"⟩, 13) := ⟨⟨by decide +kernel, by decide +kernel⟩, List.mem_of_getElem? (i := 585) (by decide +kernel), List.mem_of_getElem? (i := 693) (by decide +kernel), List.mem_of_getElem? (i := 694) (by decide +kernel)⟩
def lw_privs_1 : List (MethodName × Nat) := [(⟨"CoastLamps", "made", "(II)LCoastLamps$Lamp;"⟩, 7), (⟨"CoastLamps", "lampAt", "(I)LCoastLamps$Lamp;"⟩, 7), (⟨"CoastLamps", "beginAct", "()V"⟩, 7), (⟨"CoastLamps", "anyLit", "()Z"⟩, 7), (⟨"CoastLampsModel", "isLamp", "(I)Z"⟩, 13), (⟨"CoastLampsModel", "act", "()V"⟩, 13), (⟨"CoastLampsModel", "isHorned", "(I)Z"⟩, 13), (⟨"CoastLampsModel", "burn", "(II)I"⟩, 13), (⟨"CoastLampsModel", "burnOil", "(II)I"⟩, 13), (⟨"CoastLampsModel", "begins", "(I)V"⟩, 13), (⟨"CoastLampsModel", "burnLamp", "(II)I"⟩, 13), (⟨"CoastLampsModel", "burnTwin", "(II)I"⟩, 13), (⟨"CoastLampsModel", "burnSwing", "(II)I"⟩, 13), (⟨"CoastLampsModel", "burnOuter", "(II)I"⟩, 13), (⟨"CoastLampsModel", "burnFlare", "(II)I"⟩, 13), (⟨"CoastLampsModel", "reach", "(II)I"⟩, 13)]
theorem lw_r1 : ∀ q ∈ lw_privs_1, lw_okq q := List.forall_mem_cons.mpr ⟨lw_p0, List.forall_mem_cons.mpr ⟨lw_p1, List.forall_mem_cons.mpr ⟨lw_p2, List.forall_mem_cons.mpr ⟨lw_p3, List.forall_mem_cons.mpr ⟨lw_p4, List.forall_mem_cons.mpr ⟨lw_p5, List.forall_mem_cons.mpr ⟨lw_p6, List.forall_mem_cons.mpr ⟨lw_p7, List.forall_mem_cons.mpr ⟨lw_p8, List.forall_mem_cons.mpr ⟨lw_p9, List.forall_mem_cons.mpr ⟨lw_p10, List.forall_mem_cons.mpr ⟨lw_p11, List.forall_mem_cons.mpr ⟨lw_p12, List.forall_mem_cons.mpr ⟨lw_p13, List.forall_mem_cons.mpr ⟨lw_p14, List.forall_mem_cons.mpr ⟨lw_p15, fun _ h => absurd h List.not_mem_nil⟩⟩⟩⟩⟩⟩⟩⟩⟩⟩⟩⟩⟩⟩⟩⟩
theorem lw_p16 : lw_okq (⟨"CoastLampsModel", "reachLamp", "(II)I"⟩, 13) := ⟨⟨by decide +kernel, by decide +kernel⟩, List.mem_of_getElem? (i := 585) (by decide +kernel), List.mem_of_getElem? (i := 697) (by decide +kernel), List.mem_of_getElem? (i := 698) (by decide +kernel)⟩
theorem lw_p17 : lw_okq (⟨"CoastLampsModel", "reachRound", "(II)I"⟩, 13) := ⟨⟨by decide +kernel, by decide +kernel⟩, List.mem_of_getElem? (i := 585) (by decide +kernel), List.mem_of_getElem? (i := 701) (by decide +kernel), List.mem_of_getElem? (i := 702) (by decide +kernel)⟩
theorem lw_p18 : lw_okq (⟨"CoastLampsModel", "reachTwin", "(II)I"⟩, 13) := ⟨⟨by decide +kernel, by decide +kernel⟩, List.mem_of_getElem? (i := 585) (by decide +kernel), List.mem_of_getElem? (i := 705) (by decide +kernel), List.mem_of_getElem? (i := 706) (by decide +kernel)⟩
theorem lw_p19 : lw_okq (⟨"CoastLampsModel", "reachDrum", "(II)I"⟩, 13) := ⟨⟨by decide +kernel, by decide +kernel⟩, List.mem_of_getElem? (i := 585) (by decide +kernel), List.mem_of_getElem? (i := 709) (by decide +kernel), List.mem_of_getElem? (i := 710) (by decide +kernel)⟩
theorem lw_p20 : lw_okq (⟨"CoastLampsModel", "reachGas", "(II)I"⟩, 13) := ⟨⟨by decide +kernel, by decide +kernel⟩, List.mem_of_getElem? (i := 585) (by decide +kernel), List.mem_of_getElem? (i := 713) (by decide +kernel), List.mem_of_getElem? (i := 714) (by decide +kernel)⟩
theorem lw_p21 : lw_okq (⟨"CoastLampsModel", "reachBuoy", "(II)I"⟩, 13) := ⟨⟨by decide +kernel, by decide +kernel⟩, List.mem_of_getElem? (i := 585) (by decide +kernel), List.mem_of_getElem? (i := 717) (by decide +kernel), List.mem_of_getElem? (i := 718) (by decide +kernel)⟩
theorem lw_p22 : lw_okq (⟨"CoastLampsModel", "flash", "(II)I"⟩, 13) := ⟨⟨by decide +kernel, by decide +kernel⟩, List.mem_of_getElem? (i := 585) (by decide +kernel), List.mem_of_getElem? (i := 721) (by decide +kernel), List.mem_of_getElem? (i := 722) (by decide +kernel)⟩
theorem lw_p23 : lw_okq (⟨"CoastLampsModel", "flashTwin", "(I)I"⟩, 13) := ⟨⟨by decide +kernel, by decide +kernel⟩, List.mem_of_getElem? (i := 585) (by decide +kernel), List.mem_of_getElem? (i := 725) (by decide +kernel), List.mem_of_getElem? (i := 726) (by decide +kernel)⟩
theorem lw_p24 : lw_okq (⟨"CoastLampsModel", "flashLamp", "()I"⟩, 13) := ⟨⟨by decide +kernel, by decide +kernel⟩, List.mem_of_getElem? (i := 585) (by decide +kernel), List.mem_of_getElem? (i := 729) (by decide +kernel), List.mem_of_getElem? (i := 730) (by decide +kernel)⟩
theorem lw_p25 : lw_okq (⟨"CoastLampsModel", "flashSwing", "(I)I"⟩, 13) := ⟨⟨by decide +kernel, by decide +kernel⟩, List.mem_of_getElem? (i := 585) (by decide +kernel), List.mem_of_getElem? (i := 733) (by decide +kernel), List.mem_of_getElem? (i := 734) (by decide +kernel)⟩
theorem lw_p26 : lw_okq (⟨"CoastLampsModel", "flashFlare", "(I)I"⟩, 13) := ⟨⟨by decide +kernel, by decide +kernel⟩, List.mem_of_getElem? (i := 585) (by decide +kernel), List.mem_of_getElem? (i := 737) (by decide +kernel), List.mem_of_getElem? (i := 738) (by decide +kernel)⟩
theorem lw_p27 : lw_okq (⟨"CoastLampsModel", "flashOuter", "(I)I"⟩, 13) := ⟨⟨by decide +kernel, by decide +kernel⟩, List.mem_of_getElem? (i := 585) (by decide +kernel), List.mem_of_getElem? (i := 741) (by decide +kernel), List.mem_of_getElem? (i := 742) (by decide +kernel)⟩
theorem lw_p28 : lw_okq (⟨"CoastLampsModel", "tend", "(II)I"⟩, 13) := ⟨⟨by decide +kernel, by decide +kernel⟩, List.mem_of_getElem? (i := 585) (by decide +kernel), List.mem_of_getElem? (i := 745) (by decide +kernel), List.mem_of_getElem? (i := 746) (by decide +kernel)⟩
theorem lw_p29 : lw_okq (⟨"CoastLampsModel", "tendRound", "(II)I"⟩, 13) := ⟨⟨by decide +kernel, by decide +kernel⟩, List.mem_of_getElem? (i := 585) (by decide +kernel), List.mem_of_getElem? (i := 749) (by decide +kernel), List.mem_of_getElem? (i := 750) (by decide +kernel)⟩
theorem lw_p30 : lw_okq (⟨"CoastLampsModel", "tendLamp", "(II)I"⟩, 13) := ⟨⟨by decide +kernel, by decide +kernel⟩, List.mem_of_getElem? (i := 585) (by decide +kernel), List.mem_of_getElem? (i := 753) (by decide +kernel), List.mem_of_getElem? (i := 754) (by decide +kernel)⟩
theorem lw_p31 : lw_okq (⟨"CoastLampsModel", "tendDrum", "(II)I"⟩, 13) := ⟨⟨by decide +kernel, by decide +kernel⟩, List.mem_of_getElem? (i := 585) (by decide +kernel), List.mem_of_getElem? (i := 757) (by decide +kernel), List.mem_of_getElem? (i := 758) (by decide +kernel)⟩
def lw_privs_2 : List (MethodName × Nat) := [(⟨"CoastLampsModel", "reachLamp", "(II)I"⟩, 13), (⟨"CoastLampsModel", "reachRound", "(II)I"⟩, 13), (⟨"CoastLampsModel", "reachTwin", "(II)I"⟩, 13), (⟨"CoastLampsModel", "reachDrum", "(II)I"⟩, 13), (⟨"CoastLampsModel", "reachGas", "(II)I"⟩, 13), (⟨"CoastLampsModel", "reachBuoy", "(II)I"⟩, 13), (⟨"CoastLampsModel", "flash", "(II)I"⟩, 13), (⟨"CoastLampsModel", "flashTwin", "(I)I"⟩, 13), (⟨"CoastLampsModel", "flashLamp", "()I"⟩, 13), (⟨"CoastLampsModel", "flashSwing", "(I)I"⟩, 13), (⟨"CoastLampsModel", "flashFlare", "(I)I"⟩, 13), (⟨"CoastLampsModel", "flashOuter", "(I)I"⟩, 13), (⟨"CoastLampsModel", "tend", "(II)I"⟩, 13), (⟨"CoastLampsModel", "tendRound", "(II)I"⟩, 13), (⟨"CoastLampsModel", "tendLamp", "(II)I"⟩, 13), (⟨"CoastLampsModel", "tendDrum", "(II)I"⟩, 13)]
theorem lw_r2 : ∀ q ∈ lw_privs_2, lw_okq q := List.forall_mem_cons.mpr ⟨lw_p16, List.forall_mem_cons.mpr ⟨lw_p17, List.forall_mem_cons.mpr ⟨lw_p18, List.forall_mem_cons.mpr ⟨lw_p19, List.forall_mem_cons.mpr ⟨lw_p20, List.forall_mem_cons.mpr ⟨lw_p21, List.forall_mem_cons.mpr ⟨lw_p22, List.forall_mem_cons.mpr ⟨lw_p23, List.forall_mem_cons.mpr ⟨lw_p24, List.forall_mem_cons.mpr ⟨lw_p25, List.forall_mem_cons.mpr ⟨lw_p26, List.forall_mem_cons.mpr ⟨lw_p27, List.forall_mem_cons.mpr ⟨lw_p28, List.forall_mem_cons.mpr ⟨lw_p29, List.forall_mem_cons.mpr ⟨lw_p30, List.forall_mem_cons.mpr ⟨lw_p31, fun _ h => absurd h List.not_mem_nil⟩⟩⟩⟩⟩⟩⟩⟩⟩⟩⟩⟩⟩⟩⟩⟩
theorem lw_p32 : lw_okq (⟨"CoastLampsModel", "tendBuoy", "(II)I"⟩, 13) := ⟨⟨by decide +kernel, by decide +kernel⟩, List.mem_of_getElem? (i := 585) (by decide +kernel), List.mem_of_getElem? (i := 761) (by decide +kernel), List.mem_of_getElem? (i := 762) (by decide +kernel)⟩
theorem lw_p33 : lw_okq (⟨"CoastLampsModel", "rank", "(I)I"⟩, 13) := ⟨⟨by decide +kernel, by decide +kernel⟩, List.mem_of_getElem? (i := 585) (by decide +kernel), List.mem_of_getElem? (i := 765) (by decide +kernel), List.mem_of_getElem? (i := 766) (by decide +kernel)⟩
theorem lw_p34 : lw_okq (⟨"CoastLampsModel", "rankOil", "(I)I"⟩, 13) := ⟨⟨by decide +kernel, by decide +kernel⟩, List.mem_of_getElem? (i := 585) (by decide +kernel), List.mem_of_getElem? (i := 769) (by decide +kernel), List.mem_of_getElem? (i := 770) (by decide +kernel)⟩
theorem lw_p35 : lw_okq (⟨"CoastLampsModel", "rankLamp", "(I)I"⟩, 13) := ⟨⟨by decide +kernel, by decide +kernel⟩, List.mem_of_getElem? (i := 585) (by decide +kernel), List.mem_of_getElem? (i := 773) (by decide +kernel), List.mem_of_getElem? (i := 774) (by decide +kernel)⟩
theorem lw_p36 : lw_okq (⟨"CoastLampsModel", "rankDrum", "(I)I"⟩, 13) := ⟨⟨by decide +kernel, by decide +kernel⟩, List.mem_of_getElem? (i := 585) (by decide +kernel), List.mem_of_getElem? (i := 777) (by decide +kernel), List.mem_of_getElem? (i := 778) (by decide +kernel)⟩
theorem lw_p37 : lw_okq (⟨"CoastLampsModel", "rankOuter", "(I)I"⟩, 13) := ⟨⟨by decide +kernel, by decide +kernel⟩, List.mem_of_getElem? (i := 585) (by decide +kernel), List.mem_of_getElem? (i := 781) (by decide +kernel), List.mem_of_getElem? (i := 782) (by decide +kernel)⟩
theorem lw_p38 : lw_okq (⟨"CoastLampsModel", "rankFlare", "(I)I"⟩, 13) := ⟨⟨by decide +kernel, by decide +kernel⟩, List.mem_of_getElem? (i := 585) (by decide +kernel), List.mem_of_getElem? (i := 785) (by decide +kernel), List.mem_of_getElem? (i := 786) (by decide +kernel)⟩
theorem lw_p39 : lw_okq (⟨"CoastLampsModel", "horn", "(II)I"⟩, 13) := ⟨⟨by decide +kernel, by decide +kernel⟩, List.mem_of_getElem? (i := 585) (by decide +kernel), List.mem_of_getElem? (i := 789) (by decide +kernel), List.mem_of_getElem? (i := 790) (by decide +kernel)⟩
theorem lw_p40 : lw_okq (⟨"CoastLampsModel", "tone", "(I)I"⟩, 13) := ⟨⟨by decide +kernel, by decide +kernel⟩, List.mem_of_getElem? (i := 585) (by decide +kernel), List.mem_of_getElem? (i := 793) (by decide +kernel), List.mem_of_getElem? (i := 794) (by decide +kernel)⟩
theorem lw_p41 : lw_okq (⟨"CoastLampsModel", "toneDrum", "()I"⟩, 13) := ⟨⟨by decide +kernel, by decide +kernel⟩, List.mem_of_getElem? (i := 585) (by decide +kernel), List.mem_of_getElem? (i := 797) (by decide +kernel), List.mem_of_getElem? (i := 798) (by decide +kernel)⟩
theorem lw_p42 : lw_okq (⟨"CoastLampsModel", "toneOil", "()I"⟩, 13) := ⟨⟨by decide +kernel, by decide +kernel⟩, List.mem_of_getElem? (i := 585) (by decide +kernel), List.mem_of_getElem? (i := 801) (by decide +kernel), List.mem_of_getElem? (i := 802) (by decide +kernel)⟩
theorem lw_p43 : lw_okq (⟨"CoastLampsModel", "toneFlare", "()I"⟩, 13) := ⟨⟨by decide +kernel, by decide +kernel⟩, List.mem_of_getElem? (i := 585) (by decide +kernel), List.mem_of_getElem? (i := 805) (by decide +kernel), List.mem_of_getElem? (i := 806) (by decide +kernel)⟩
theorem lw_p44 : lw_okq (⟨"CoastLampsModel", "toneOuter", "(I)I"⟩, 13) := ⟨⟨by decide +kernel, by decide +kernel⟩, List.mem_of_getElem? (i := 585) (by decide +kernel), List.mem_of_getElem? (i := 809) (by decide +kernel), List.mem_of_getElem? (i := 810) (by decide +kernel)⟩
theorem lw_p45 : lw_okq (⟨"CoastLampsModel", "isAnyLit", "()Z"⟩, 13) := ⟨⟨by decide +kernel, by decide +kernel⟩, List.mem_of_getElem? (i := 585) (by decide +kernel), List.mem_of_getElem? (i := 835) (by decide +kernel), List.mem_of_getElem? (i := 836) (by decide +kernel)⟩
def lw_privs_3 : List (MethodName × Nat) := [(⟨"CoastLampsModel", "tendBuoy", "(II)I"⟩, 13), (⟨"CoastLampsModel", "rank", "(I)I"⟩, 13), (⟨"CoastLampsModel", "rankOil", "(I)I"⟩, 13), (⟨"CoastLampsModel", "rankLamp", "(I)I"⟩, 13), (⟨"CoastLampsModel", "rankDrum", "(I)I"⟩, 13), (⟨"CoastLampsModel", "rankOuter", "(I)I"⟩, 13), (⟨"CoastLampsModel", "rankFlare", "(I)I"⟩, 13), (⟨"CoastLampsModel", "horn", "(II)I"⟩, 13), (⟨"CoastLampsModel", "tone", "(I)I"⟩, 13), (⟨"CoastLampsModel", "toneDrum", "()I"⟩, 13), (⟨"CoastLampsModel", "toneOil", "()I"⟩, 13), (⟨"CoastLampsModel", "toneFlare", "()I"⟩, 13), (⟨"CoastLampsModel", "toneOuter", "(I)I"⟩, 13), (⟨"CoastLampsModel", "isAnyLit", "()Z"⟩, 13)]
theorem lw_r3 : ∀ q ∈ lw_privs_3, lw_okq q := List.forall_mem_cons.mpr ⟨lw_p32, List.forall_mem_cons.mpr ⟨lw_p33, List.forall_mem_cons.mpr ⟨lw_p34, List.forall_mem_cons.mpr ⟨lw_p35, List.forall_mem_cons.mpr ⟨lw_p36, List.forall_mem_cons.mpr ⟨lw_p37, List.forall_mem_cons.mpr ⟨lw_p38, List.forall_mem_cons.mpr ⟨lw_p39, List.forall_mem_cons.mpr ⟨lw_p40, List.forall_mem_cons.mpr ⟨lw_p41, List.forall_mem_cons.mpr ⟨lw_p42, List.forall_mem_cons.mpr ⟨lw_p43, List.forall_mem_cons.mpr ⟨lw_p44, List.forall_mem_cons.mpr ⟨lw_p45, fun _ h => absurd h List.not_mem_nil⟩⟩⟩⟩⟩⟩⟩⟩⟩⟩⟩⟩⟩⟩
def lw_privs : List (MethodName × Nat) := lw_privs_1 ++ (lw_privs_2 ++ (lw_privs_3))
def lw_tbl : List Cond := k2_sels lw_privs ++ tables_1
theorem lw_privs_ok : ∀ q ∈ lw_privs, lw_okq q := by
  show ∀ q ∈ lw_privs_1 ++ (lw_privs_2 ++ (lw_privs_3)), lw_okq q
  exact List.forall_mem_append.mpr ⟨lw_r1, List.forall_mem_append.mpr ⟨lw_r2, lw_r3⟩⟩

def R_X : String := "CoastLamps"
def R_M : String := "CoastLampsModel"
def R_Coast : String := "CoastLamps$Coast"
def R_Lamp : String := "CoastLamps$Lamp"
def R_Oil : String := "CoastLamps$Oil"
def R_Round : String := "CoastLamps$Round"
def R_Twin : String := "CoastLamps$Twin"
def R_Drum : String := "CoastLamps$Drum"
def R_Swing : String := "CoastLamps$Swing"
def R_Gas : String := "CoastLamps$Gas"
def R_Flare : String := "CoastLamps$Flare"
def R_Buoy : String := "CoastLamps$Buoy"
def R_Outer : String := "CoastLamps$Outer"
def R_K : Nat → String := fun k => match k with
  | 0 => "CoastLamps$Oil"
  | 1 => "CoastLamps$Round"
  | 2 => "CoastLamps$Twin"
  | 3 => "CoastLamps$Drum"
  | 4 => "CoastLamps$Swing"
  | 5 => "CoastLamps$Gas"
  | 6 => "CoastLamps$Flare"
  | 7 => "CoastLamps$Buoy"
  | _ => "CoastLamps$Outer"
def F_Lamp : u_T := fun k => match k with
  | 0 => ("CoastLamps$Lamp", "coast", "LCoastLamps$Coast;", true)
  | 1 => ("CoastLamps$Lamp", "kind", "I", true)
  | 2 => ("CoastLamps$Lamp", "height", "I", true)
  | 3 => ("CoastLamps$Lamp", "tank", "I", false)
  | 4 => ("CoastLamps$Lamp", "soot", "I", false)
  | _ => ("CoastLamps$Lamp", "lit", "Z", false)
def t_Lamp : Nat → FieldType := fun k => match k with
  | 0 => .object "CoastLamps$Coast"
  | 1 => .int
  | 2 => .int
  | 3 => .int
  | 4 => .int
  | _ => .boolean
theorem n_Lamp : ∀ a, a < 6 → ∀ b, b < 6 → a ≠ b → (F_Lamp a).2.1 ≠ (F_Lamp b).2.1 := by decide +kernel
theorem o_Lamp : ∀ k, k < 6 → parseFieldDescriptor (F_Lamp k).2.2.1 = some (t_Lamp k) := by decide +kernel
def F_Coast : u_T := fun k => match k with
  | 0 => ("CoastLamps$Coast", "dials", "[I", true)
  | 1 => ("CoastLamps$Coast", "entries", "[I", true)
  | _ => ("CoastLamps$Coast", "written", "I", false)
def t_Coast : Nat → FieldType := fun k => match k with
  | 0 => .array .int
  | 1 => .array .int
  | _ => .int
theorem n_Coast : ∀ a, a < 3 → ∀ b, b < 3 → a ≠ b → (F_Coast a).2.1 ≠ (F_Coast b).2.1 := by decide +kernel
theorem o_Coast : ∀ k, k < 3 → parseFieldDescriptor (F_Coast k).2.2.1 = some (t_Coast k) := by decide +kernel
def F_X : u_T := fun k => match k with
  | 0 => ("CoastLamps", "coast", "LCoastLamps$Coast;", true)
  | 1 => ("CoastLamps", "lamps", "[LCoastLamps$Lamp;", true)
  | 2 => ("CoastLamps", "lampCount", "I", false)
  | 3 => ("CoastLamps", "nights", "I", false)
  | 4 => ("CoastLamps", "acts", "I", false)
  | 5 => ("CoastLamps", "latestBlown", "I", false)
  | _ => ("CoastLamps", "stored", "J", false)
def t_X : Nat → FieldType := fun k => match k with
  | 0 => .object "CoastLamps$Coast"
  | 1 => .array (.object "CoastLamps$Lamp")
  | 2 => .int
  | 3 => .int
  | 4 => .int
  | 5 => .int
  | _ => .long
theorem n_X : ∀ a, a < 7 → ∀ b, b < 7 → a ≠ b → (F_X a).2.1 ≠ (F_X b).2.1 := by decide +kernel
theorem o_X : ∀ k, k < 7 → parseFieldDescriptor (F_X k).2.2.1 = some (t_X k) := by decide +kernel
def F_M : u_T := fun k => match k with
  | 0 => ("CoastLampsModel", "dials", "[I", true)
  | 1 => ("CoastLampsModel", "lamps", "I", false)
  | 2 => ("CoastLampsModel", "kind", "[I", true)
  | 3 => ("CoastLampsModel", "height", "[I", true)
  | 4 => ("CoastLampsModel", "tank", "[I", true)
  | 5 => ("CoastLampsModel", "soot", "[I", true)
  | 6 => ("CoastLampsModel", "lit", "[Z", true)
  | 7 => ("CoastLampsModel", "store", "J", false)
  | 8 => ("CoastLampsModel", "nights", "I", false)
  | 9 => ("CoastLampsModel", "acts", "I", false)
  | 10 => ("CoastLampsModel", "blown", "I", false)
  | 11 => ("CoastLampsModel", "trace", "[I", true)
  | _ => ("CoastLampsModel", "traced", "I", false)
def t_M : Nat → FieldType := fun k => match k with
  | 0 => .array .int
  | 1 => .int
  | 2 => .array .int
  | 3 => .array .int
  | 4 => .array .int
  | 5 => .array .int
  | 6 => .array .boolean
  | 7 => .long
  | 8 => .int
  | 9 => .int
  | 10 => .int
  | 11 => .array .int
  | _ => .int
theorem n_M : ∀ a, a < 13 → ∀ b, b < 13 → a ≠ b → (F_M a).2.1 ≠ (F_M b).2.1 := by decide +kernel
theorem o_M : ∀ k, k < 13 → parseFieldDescriptor (F_M k).2.2.1 = some (t_M k) := by decide +kernel
abbrev classes : List vw_C := [(R_Oil, F_Lamp, 6), (R_Round, F_Lamp, 6), (R_Twin, F_Lamp, 6), (R_Drum, F_Lamp, 6), (R_Swing, F_Lamp, 6), (R_Gas, F_Lamp, 6), (R_Flare, F_Lamp, 6), (R_Buoy, F_Lamp, 6), (R_Outer, F_Lamp, 6), (R_Coast, F_Coast, 3), (R_X, F_X, 7), (R_M, F_M, 13)]
abbrev b_Buoy_init : ByteArray := prog_2_method_1_code
def y_Buoy_init : MethodName := ⟨"CoastLamps$Buoy", "<init>", "(LCoastLamps$Coast;II)V"⟩
abbrev b_Buoy_reach : ByteArray := prog_2_method_2_code
def y_Buoy_reach : MethodName := ⟨"CoastLamps$Buoy", "reach", "(I)I"⟩
abbrev b_Buoy_tend : ByteArray := prog_2_method_3_code
def y_Buoy_tend : MethodName := ⟨"CoastLamps$Buoy", "tend", "(I)I"⟩
abbrev b_Coast_init : ByteArray := prog_3_method_1_code
def y_Coast_init : MethodName := ⟨"CoastLamps$Coast", "<init>", "()V"⟩
abbrev b_Coast_dialed : ByteArray := prog_3_method_2_code
def y_Coast_dialed : MethodName := ⟨"CoastLamps$Coast", "dialed", "(I)I"⟩
abbrev b_Coast_turn : ByteArray := prog_3_method_3_code
def y_Coast_turn : MethodName := ⟨"CoastLamps$Coast", "turn", "(II)V"⟩
abbrev b_Coast_entry : ByteArray := prog_3_method_4_code
def y_Coast_entry : MethodName := ⟨"CoastLamps$Coast", "entry", "(I)I"⟩
abbrev b_Coast_wipe : ByteArray := prog_3_method_5_code
def y_Coast_wipe : MethodName := ⟨"CoastLamps$Coast", "wipe", "()V"⟩
abbrev b_Coast_begins : ByteArray := prog_3_method_6_code
def y_Coast_begins : MethodName := ⟨"CoastLamps$Coast", "begins", "(II)V"⟩
abbrev b_Drum_init : ByteArray := prog_4_method_1_code
def y_Drum_init : MethodName := ⟨"CoastLamps$Drum", "<init>", "(LCoastLamps$Coast;II)V"⟩
abbrev b_Drum_reach : ByteArray := prog_4_method_2_code
def y_Drum_reach : MethodName := ⟨"CoastLamps$Drum", "reach", "(I)I"⟩
abbrev b_Drum_tend : ByteArray := prog_4_method_3_code
def y_Drum_tend : MethodName := ⟨"CoastLamps$Drum", "tend", "(I)I"⟩
abbrev b_Drum_rank : ByteArray := prog_4_method_4_code
def y_Drum_rank : MethodName := ⟨"CoastLamps$Drum", "rank", "()I"⟩
abbrev b_Drum_tone : ByteArray := prog_4_method_5_code
def y_Drum_tone : MethodName := ⟨"CoastLamps$Drum", "tone", "()I"⟩
abbrev b_Flare_init : ByteArray := prog_5_method_1_code
def y_Flare_init : MethodName := ⟨"CoastLamps$Flare", "<init>", "(LCoastLamps$Coast;II)V"⟩
abbrev b_Flare_horned : ByteArray := prog_5_method_2_code
def y_Flare_horned : MethodName := ⟨"CoastLamps$Flare", "horned", "()Z"⟩
abbrev b_Flare_burn : ByteArray := prog_5_method_3_code
def y_Flare_burn : MethodName := ⟨"CoastLamps$Flare", "burn", "(I)I"⟩
abbrev b_Flare_flash : ByteArray := prog_5_method_4_code
def y_Flare_flash : MethodName := ⟨"CoastLamps$Flare", "flash", "(I)I"⟩
abbrev b_Flare_rank : ByteArray := prog_5_method_5_code
def y_Flare_rank : MethodName := ⟨"CoastLamps$Flare", "rank", "()I"⟩
abbrev b_Flare_tone : ByteArray := prog_5_method_6_code
def y_Flare_tone : MethodName := ⟨"CoastLamps$Flare", "tone", "()I"⟩
abbrev b_Gas_init : ByteArray := prog_6_method_1_code
def y_Gas_init : MethodName := ⟨"CoastLamps$Gas", "<init>", "(LCoastLamps$Coast;II)V"⟩
abbrev b_Gas_reach : ByteArray := prog_6_method_2_code
def y_Gas_reach : MethodName := ⟨"CoastLamps$Gas", "reach", "(I)I"⟩
abbrev b_Lamp_init : ByteArray := prog_7_method_1_code
def y_Lamp_init : MethodName := ⟨"CoastLamps$Lamp", "<init>", "(LCoastLamps$Coast;II)V"⟩
abbrev b_Lamp_drain : ByteArray := prog_7_method_2_code
def y_Lamp_drain : MethodName := ⟨"CoastLamps$Lamp", "drain", "(I)V"⟩
abbrev b_Lamp_horned : ByteArray := prog_7_method_3_code
def y_Lamp_horned : MethodName := ⟨"CoastLamps$Lamp", "horned", "()Z"⟩
abbrev b_Lamp_burn : ByteArray := prog_7_method_4_code
def y_Lamp_burn : MethodName := ⟨"CoastLamps$Lamp", "burn", "(I)I"⟩
abbrev b_Lamp_reach : ByteArray := prog_7_method_5_code
def y_Lamp_reach : MethodName := ⟨"CoastLamps$Lamp", "reach", "(I)I"⟩
abbrev b_Lamp_flash : ByteArray := prog_7_method_6_code
def y_Lamp_flash : MethodName := ⟨"CoastLamps$Lamp", "flash", "(I)I"⟩
abbrev b_Lamp_tend : ByteArray := prog_7_method_7_code
def y_Lamp_tend : MethodName := ⟨"CoastLamps$Lamp", "tend", "(I)I"⟩
abbrev b_Lamp_rank : ByteArray := prog_7_method_8_code
def y_Lamp_rank : MethodName := ⟨"CoastLamps$Lamp", "rank", "()I"⟩
abbrev b_Lamp_horn : ByteArray := prog_7_method_9_code
def y_Lamp_horn : MethodName := ⟨"CoastLamps$Lamp", "horn", "(I)I"⟩
abbrev b_Lamp_tone : ByteArray := prog_7_method_10_code
def y_Lamp_tone : MethodName := ⟨"CoastLamps$Lamp", "tone", "()I"⟩
abbrev b_Oil_init : ByteArray := prog_8_method_1_code
def y_Oil_init : MethodName := ⟨"CoastLamps$Oil", "<init>", "(LCoastLamps$Coast;II)V"⟩
abbrev b_Oil_burn : ByteArray := prog_8_method_2_code
def y_Oil_burn : MethodName := ⟨"CoastLamps$Oil", "burn", "(I)I"⟩
abbrev b_Oil_rank : ByteArray := prog_8_method_3_code
def y_Oil_rank : MethodName := ⟨"CoastLamps$Oil", "rank", "()I"⟩
abbrev b_Oil_tone : ByteArray := prog_8_method_4_code
def y_Oil_tone : MethodName := ⟨"CoastLamps$Oil", "tone", "()I"⟩
abbrev b_Outer_init : ByteArray := prog_9_method_1_code
def y_Outer_init : MethodName := ⟨"CoastLamps$Outer", "<init>", "(LCoastLamps$Coast;II)V"⟩
abbrev b_Outer_burn : ByteArray := prog_9_method_2_code
def y_Outer_burn : MethodName := ⟨"CoastLamps$Outer", "burn", "(I)I"⟩
abbrev b_Outer_flash : ByteArray := prog_9_method_3_code
def y_Outer_flash : MethodName := ⟨"CoastLamps$Outer", "flash", "(I)I"⟩
abbrev b_Outer_rank : ByteArray := prog_9_method_4_code
def y_Outer_rank : MethodName := ⟨"CoastLamps$Outer", "rank", "()I"⟩
abbrev b_Outer_tone : ByteArray := prog_9_method_5_code
def y_Outer_tone : MethodName := ⟨"CoastLamps$Outer", "tone", "()I"⟩
abbrev b_Round_init : ByteArray := prog_10_method_1_code
def y_Round_init : MethodName := ⟨"CoastLamps$Round", "<init>", "(LCoastLamps$Coast;II)V"⟩
abbrev b_Round_reach : ByteArray := prog_10_method_2_code
def y_Round_reach : MethodName := ⟨"CoastLamps$Round", "reach", "(I)I"⟩
abbrev b_Round_tend : ByteArray := prog_10_method_3_code
def y_Round_tend : MethodName := ⟨"CoastLamps$Round", "tend", "(I)I"⟩
abbrev b_Swing_init : ByteArray := prog_11_method_1_code
def y_Swing_init : MethodName := ⟨"CoastLamps$Swing", "<init>", "(LCoastLamps$Coast;II)V"⟩
abbrev b_Swing_burn : ByteArray := prog_11_method_2_code
def y_Swing_burn : MethodName := ⟨"CoastLamps$Swing", "burn", "(I)I"⟩
abbrev b_Swing_flash : ByteArray := prog_11_method_3_code
def y_Swing_flash : MethodName := ⟨"CoastLamps$Swing", "flash", "(I)I"⟩
abbrev b_Swing_horn : ByteArray := prog_11_method_4_code
def y_Swing_horn : MethodName := ⟨"CoastLamps$Swing", "horn", "(I)I"⟩
abbrev b_Twin_init : ByteArray := prog_12_method_1_code
def y_Twin_init : MethodName := ⟨"CoastLamps$Twin", "<init>", "(LCoastLamps$Coast;II)V"⟩
abbrev b_Twin_horned : ByteArray := prog_12_method_2_code
def y_Twin_horned : MethodName := ⟨"CoastLamps$Twin", "horned", "()Z"⟩
abbrev b_Twin_burn : ByteArray := prog_12_method_3_code
def y_Twin_burn : MethodName := ⟨"CoastLamps$Twin", "burn", "(I)I"⟩
abbrev b_Twin_reach : ByteArray := prog_12_method_4_code
def y_Twin_reach : MethodName := ⟨"CoastLamps$Twin", "reach", "(I)I"⟩
abbrev b_Twin_flash : ByteArray := prog_12_method_5_code
def y_Twin_flash : MethodName := ⟨"CoastLamps$Twin", "flash", "(I)I"⟩
abbrev b_X_init : ByteArray := prog_1_method_1_code
def y_X_init : MethodName := ⟨"CoastLamps", "<init>", "()V"⟩
abbrev b_X_dial : ByteArray := prog_1_method_2_code
def y_X_dial : MethodName := ⟨"CoastLamps", "dial", "(II)I"⟩
abbrev b_X_lamp : ByteArray := prog_1_method_3_code
def y_X_lamp : MethodName := ⟨"CoastLamps", "lamp", "(II)I"⟩
abbrev b_X_ask : ByteArray := prog_1_method_4_code
def y_X_ask : MethodName := ⟨"CoastLamps", "ask", "(III)J"⟩
abbrev b_X_trace : ByteArray := prog_1_method_5_code
def y_X_trace : MethodName := ⟨"CoastLamps", "trace", "(I)I"⟩
abbrev b_X_haul : ByteArray := prog_1_method_6_code
def y_X_haul : MethodName := ⟨"CoastLamps", "haul", "(I)J"⟩
abbrev b_X_fill : ByteArray := prog_1_method_7_code
def y_X_fill : MethodName := ⟨"CoastLamps", "fill", "(II)I"⟩
abbrev b_X_light : ByteArray := prog_1_method_8_code
def y_X_light : MethodName := ⟨"CoastLamps", "light", "(IZ)I"⟩
abbrev b_X_night : ByteArray := prog_1_method_9_code
def y_X_night : MethodName := ⟨"CoastLamps", "night", "(I)I"⟩
abbrev b_X_seen : ByteArray := prog_1_method_10_code
def y_X_seen : MethodName := ⟨"CoastLamps", "seen", "(I)I"⟩
abbrev b_X_blow : ByteArray := prog_1_method_11_code
def y_X_blow : MethodName := ⟨"CoastLamps", "blow", "(II)I"⟩
abbrev b_X_blown : ByteArray := prog_1_method_12_code
def y_X_blown : MethodName := ⟨"CoastLamps", "blown", "()I"⟩
abbrev b_X_told : ByteArray := prog_1_method_13_code
def y_X_told : MethodName := ⟨"CoastLamps", "told", "(II)J"⟩
abbrev b_X_count : ByteArray := prog_1_method_14_code
def y_X_count : MethodName := ⟨"CoastLamps", "count", "(I)I"⟩
abbrev b_X_store : ByteArray := prog_1_method_15_code
def y_X_store : MethodName := ⟨"CoastLamps", "store", "()J"⟩
abbrev b_X_within : ByteArray := prog_1_method_16_code
def y_X_within : MethodName := ⟨"CoastLamps", "within", "(III)Z"⟩
abbrev b_X_lampAt : ByteArray := prog_1_method_17_code
def y_X_lampAt : MethodName := ⟨"CoastLamps", "lampAt", "(I)LCoastLamps$Lamp;"⟩
abbrev b_X_anyLit : ByteArray := prog_1_method_18_code
def y_X_anyLit : MethodName := ⟨"CoastLamps", "anyLit", "()Z"⟩
abbrev b_X_beginAct : ByteArray := prog_1_method_19_code
def y_X_beginAct : MethodName := ⟨"CoastLamps", "beginAct", "()V"⟩
abbrev b_X_made : ByteArray := prog_1_method_20_code
def y_X_made : MethodName := ⟨"CoastLamps", "made", "(II)LCoastLamps$Lamp;"⟩
abbrev b_M_init : ByteArray := prog_14_method_1_code
def y_M_init : MethodName := ⟨"CoastLampsModel", "<init>", "()V"⟩
abbrev b_M_in : ByteArray := prog_14_method_3_code
def y_M_in : MethodName := ⟨"CoastLampsModel", "in", "(III)Z"⟩
abbrev b_M_isLamp : ByteArray := prog_14_method_4_code
def y_M_isLamp : MethodName := ⟨"CoastLampsModel", "isLamp", "(I)Z"⟩
abbrev b_M_isHorned : ByteArray := prog_14_method_5_code
def y_M_isHorned : MethodName := ⟨"CoastLampsModel", "isHorned", "(I)Z"⟩
abbrev b_M_begins : ByteArray := prog_14_method_6_code
def y_M_begins : MethodName := ⟨"CoastLampsModel", "begins", "(I)V"⟩
abbrev b_M_act : ByteArray := prog_14_method_7_code
def y_M_act : MethodName := ⟨"CoastLampsModel", "act", "()V"⟩
abbrev b_M_burnLamp : ByteArray := prog_14_method_8_code
def y_M_burnLamp : MethodName := ⟨"CoastLampsModel", "burnLamp", "(II)I"⟩
abbrev b_M_burnOil : ByteArray := prog_14_method_9_code
def y_M_burnOil : MethodName := ⟨"CoastLampsModel", "burnOil", "(II)I"⟩
abbrev b_M_burnTwin : ByteArray := prog_14_method_10_code
def y_M_burnTwin : MethodName := ⟨"CoastLampsModel", "burnTwin", "(II)I"⟩
abbrev b_M_burnSwing : ByteArray := prog_14_method_11_code
def y_M_burnSwing : MethodName := ⟨"CoastLampsModel", "burnSwing", "(II)I"⟩
abbrev b_M_burnFlare : ByteArray := prog_14_method_12_code
def y_M_burnFlare : MethodName := ⟨"CoastLampsModel", "burnFlare", "(II)I"⟩
abbrev b_M_burnOuter : ByteArray := prog_14_method_13_code
def y_M_burnOuter : MethodName := ⟨"CoastLampsModel", "burnOuter", "(II)I"⟩
abbrev b_M_burn : ByteArray := prog_14_method_14_code
def y_M_burn : MethodName := ⟨"CoastLampsModel", "burn", "(II)I"⟩
abbrev b_M_reachLamp : ByteArray := prog_14_method_15_code
def y_M_reachLamp : MethodName := ⟨"CoastLampsModel", "reachLamp", "(II)I"⟩
abbrev b_M_reachRound : ByteArray := prog_14_method_16_code
def y_M_reachRound : MethodName := ⟨"CoastLampsModel", "reachRound", "(II)I"⟩
abbrev b_M_reachTwin : ByteArray := prog_14_method_17_code
def y_M_reachTwin : MethodName := ⟨"CoastLampsModel", "reachTwin", "(II)I"⟩
abbrev b_M_reachDrum : ByteArray := prog_14_method_18_code
def y_M_reachDrum : MethodName := ⟨"CoastLampsModel", "reachDrum", "(II)I"⟩
abbrev b_M_reachGas : ByteArray := prog_14_method_19_code
def y_M_reachGas : MethodName := ⟨"CoastLampsModel", "reachGas", "(II)I"⟩
abbrev b_M_reachBuoy : ByteArray := prog_14_method_20_code
def y_M_reachBuoy : MethodName := ⟨"CoastLampsModel", "reachBuoy", "(II)I"⟩
abbrev b_M_reach : ByteArray := prog_14_method_21_code
def y_M_reach : MethodName := ⟨"CoastLampsModel", "reach", "(II)I"⟩
abbrev b_M_flashLamp : ByteArray := prog_14_method_22_code
def y_M_flashLamp : MethodName := ⟨"CoastLampsModel", "flashLamp", "()I"⟩
abbrev b_M_flashTwin : ByteArray := prog_14_method_23_code
def y_M_flashTwin : MethodName := ⟨"CoastLampsModel", "flashTwin", "(I)I"⟩
abbrev b_M_flashSwing : ByteArray := prog_14_method_24_code
def y_M_flashSwing : MethodName := ⟨"CoastLampsModel", "flashSwing", "(I)I"⟩
abbrev b_M_flashFlare : ByteArray := prog_14_method_25_code
def y_M_flashFlare : MethodName := ⟨"CoastLampsModel", "flashFlare", "(I)I"⟩
abbrev b_M_flashOuter : ByteArray := prog_14_method_26_code
def y_M_flashOuter : MethodName := ⟨"CoastLampsModel", "flashOuter", "(I)I"⟩
abbrev b_M_flash : ByteArray := prog_14_method_27_code
def y_M_flash : MethodName := ⟨"CoastLampsModel", "flash", "(II)I"⟩
abbrev b_M_tendLamp : ByteArray := prog_14_method_28_code
def y_M_tendLamp : MethodName := ⟨"CoastLampsModel", "tendLamp", "(II)I"⟩
abbrev b_M_tendRound : ByteArray := prog_14_method_29_code
def y_M_tendRound : MethodName := ⟨"CoastLampsModel", "tendRound", "(II)I"⟩
abbrev b_M_tendDrum : ByteArray := prog_14_method_30_code
def y_M_tendDrum : MethodName := ⟨"CoastLampsModel", "tendDrum", "(II)I"⟩
abbrev b_M_tendBuoy : ByteArray := prog_14_method_31_code
def y_M_tendBuoy : MethodName := ⟨"CoastLampsModel", "tendBuoy", "(II)I"⟩
abbrev b_M_tend : ByteArray := prog_14_method_32_code
def y_M_tend : MethodName := ⟨"CoastLampsModel", "tend", "(II)I"⟩
abbrev b_M_rankLamp : ByteArray := prog_14_method_33_code
def y_M_rankLamp : MethodName := ⟨"CoastLampsModel", "rankLamp", "(I)I"⟩
abbrev b_M_rankOil : ByteArray := prog_14_method_34_code
def y_M_rankOil : MethodName := ⟨"CoastLampsModel", "rankOil", "(I)I"⟩
abbrev b_M_rankDrum : ByteArray := prog_14_method_35_code
def y_M_rankDrum : MethodName := ⟨"CoastLampsModel", "rankDrum", "(I)I"⟩
abbrev b_M_rankFlare : ByteArray := prog_14_method_36_code
def y_M_rankFlare : MethodName := ⟨"CoastLampsModel", "rankFlare", "(I)I"⟩
abbrev b_M_rankOuter : ByteArray := prog_14_method_37_code
def y_M_rankOuter : MethodName := ⟨"CoastLampsModel", "rankOuter", "(I)I"⟩
abbrev b_M_rank : ByteArray := prog_14_method_38_code
def y_M_rank : MethodName := ⟨"CoastLampsModel", "rank", "(I)I"⟩
abbrev b_M_toneOil : ByteArray := prog_14_method_39_code
def y_M_toneOil : MethodName := ⟨"CoastLampsModel", "toneOil", "()I"⟩
abbrev b_M_toneDrum : ByteArray := prog_14_method_40_code
def y_M_toneDrum : MethodName := ⟨"CoastLampsModel", "toneDrum", "()I"⟩
abbrev b_M_toneFlare : ByteArray := prog_14_method_41_code
def y_M_toneFlare : MethodName := ⟨"CoastLampsModel", "toneFlare", "()I"⟩
abbrev b_M_toneOuter : ByteArray := prog_14_method_42_code
def y_M_toneOuter : MethodName := ⟨"CoastLampsModel", "toneOuter", "(I)I"⟩
abbrev b_M_tone : ByteArray := prog_14_method_43_code
def y_M_tone : MethodName := ⟨"CoastLampsModel", "tone", "(I)I"⟩
abbrev b_M_horn : ByteArray := prog_14_method_44_code
def y_M_horn : MethodName := ⟨"CoastLampsModel", "horn", "(II)I"⟩
abbrev b_M_dial : ByteArray := prog_14_method_45_code
def y_M_dial : MethodName := ⟨"CoastLampsModel", "dial", "(II)I"⟩
abbrev b_M_lamp : ByteArray := prog_14_method_46_code
def y_M_lamp : MethodName := ⟨"CoastLampsModel", "lamp", "(II)I"⟩
abbrev b_M_ask : ByteArray := prog_14_method_47_code
def y_M_ask : MethodName := ⟨"CoastLampsModel", "ask", "(III)J"⟩
abbrev b_M_trace : ByteArray := prog_14_method_48_code
def y_M_trace : MethodName := ⟨"CoastLampsModel", "trace", "(I)I"⟩
abbrev b_M_haul : ByteArray := prog_14_method_49_code
def y_M_haul : MethodName := ⟨"CoastLampsModel", "haul", "(I)J"⟩
abbrev b_M_fill : ByteArray := prog_14_method_50_code
def y_M_fill : MethodName := ⟨"CoastLampsModel", "fill", "(II)I"⟩
abbrev b_M_light : ByteArray := prog_14_method_51_code
def y_M_light : MethodName := ⟨"CoastLampsModel", "light", "(IZ)I"⟩
abbrev b_M_isAnyLit : ByteArray := prog_14_method_52_code
def y_M_isAnyLit : MethodName := ⟨"CoastLampsModel", "isAnyLit", "()Z"⟩
abbrev b_M_night : ByteArray := prog_14_method_53_code
def y_M_night : MethodName := ⟨"CoastLampsModel", "night", "(I)I"⟩
abbrev b_M_seen : ByteArray := prog_14_method_54_code
def y_M_seen : MethodName := ⟨"CoastLampsModel", "seen", "(I)I"⟩
abbrev b_M_blow : ByteArray := prog_14_method_55_code
def y_M_blow : MethodName := ⟨"CoastLampsModel", "blow", "(II)I"⟩
abbrev b_M_blown : ByteArray := prog_14_method_56_code
def y_M_blown : MethodName := ⟨"CoastLampsModel", "blown", "()I"⟩
abbrev b_M_told : ByteArray := prog_14_method_57_code
def y_M_told : MethodName := ⟨"CoastLampsModel", "told", "(II)J"⟩
abbrev b_M_count : ByteArray := prog_14_method_58_code
def y_M_count : MethodName := ⟨"CoastLampsModel", "count", "(I)I"⟩
abbrev b_M_store : ByteArray := prog_14_method_59_code
def y_M_store : MethodName := ⟨"CoastLampsModel", "store", "()J"⟩
def tbl : List Cond := lw_tbl.filter goodWord
theorem tbl_of {w : Cond} (h : w ∈ lw_tbl) (hg : goodWord w = true) : w ∈ tbl := List.mem_filter.mpr ⟨h, hg⟩
theorem tbl_in {w : Cond} (h : w ∈ tbl) : w ∈ lw_tbl := (List.mem_filter.mp h).1
theorem tbl_good {w : Cond} (h : w ∈ tbl) : (w.onTables && w.keeps) = true ∨ ∃ ty, w = .arrayClass ty := good_of_word (List.mem_filter.mp h).2
theorem kw_0 : (Jvm.Cond.initialized "CoastLampsLaw") ∈ tbl := tbl_of (List.mem_of_getElem? (i := 46) (by decide +kernel)) (by decide +kernel)
theorem kw_1 : (Jvm.Cond.initialized "CoastLamps") ∈ tbl := tbl_of (List.mem_of_getElem? (i := 47) (by decide +kernel)) (by decide +kernel)
theorem kw_2 : (Jvm.Cond.initialized "CoastLamps$Coast") ∈ tbl := tbl_of (List.mem_of_getElem? (i := 48) (by decide +kernel)) (by decide +kernel)
theorem kw_3 : (Jvm.Cond.initialized "CoastLampsModel") ∈ tbl := tbl_of (List.mem_of_getElem? (i := 49) (by decide +kernel)) (by decide +kernel)
theorem kw_4 : (Jvm.Cond.initialized "CoastLamps$Lamp") ∈ tbl := tbl_of (List.mem_of_getElem? (i := 50) (by decide +kernel)) (by decide +kernel)
theorem kw_5 : (Jvm.Cond.initialized "CoastLamps$Oil") ∈ tbl := tbl_of (List.mem_of_getElem? (i := 51) (by decide +kernel)) (by decide +kernel)
theorem kw_6 : (Jvm.Cond.initialized "CoastLamps$Round") ∈ tbl := tbl_of (List.mem_of_getElem? (i := 52) (by decide +kernel)) (by decide +kernel)
theorem kw_7 : (Jvm.Cond.initialized "CoastLamps$Twin") ∈ tbl := tbl_of (List.mem_of_getElem? (i := 53) (by decide +kernel)) (by decide +kernel)
theorem kw_8 : (Jvm.Cond.initialized "CoastLamps$Drum") ∈ tbl := tbl_of (List.mem_of_getElem? (i := 54) (by decide +kernel)) (by decide +kernel)
theorem kw_9 : (Jvm.Cond.initialized "CoastLamps$Swing") ∈ tbl := tbl_of (List.mem_of_getElem? (i := 55) (by decide +kernel)) (by decide +kernel)
theorem kw_10 : (Jvm.Cond.initialized "CoastLamps$Gas") ∈ tbl := tbl_of (List.mem_of_getElem? (i := 56) (by decide +kernel)) (by decide +kernel)
theorem kw_11 : (Jvm.Cond.initialized "CoastLamps$Flare") ∈ tbl := tbl_of (List.mem_of_getElem? (i := 57) (by decide +kernel)) (by decide +kernel)
theorem kw_12 : (Jvm.Cond.initialized "CoastLamps$Buoy") ∈ tbl := tbl_of (List.mem_of_getElem? (i := 58) (by decide +kernel)) (by decide +kernel)
theorem kw_13 : (Jvm.Cond.initialized "CoastLamps$Outer") ∈ tbl := tbl_of (List.mem_of_getElem? (i := 59) (by decide +kernel)) (by decide +kernel)
theorem kw_14 : (Jvm.Cond.initialized "java/lang/Math") ∈ tbl := tbl_of (List.mem_of_getElem? (i := 60) (by decide +kernel)) (by decide +kernel)
theorem kw_15 : (Jvm.Cond.classLink "CoastLampsLaw" (7 : Nat) "CoastLamps") ∈ tbl := tbl_of (List.mem_of_getElem? (i := 61) (by decide +kernel)) (by decide +kernel)
theorem kw_16 : (Jvm.Cond.instantiable "CoastLamps" (7 : Nat)) ∈ tbl := tbl_of (List.mem_of_getElem? (i := 62) (by decide +kernel)) (by decide +kernel)
theorem kw_17 : (Jvm.Cond.methodLink "CoastLampsLaw" (9 : Nat) ({ cls := "CoastLamps", name := "<init>", desc := "()V" } : Jvm.MethodName)) ∈ tbl := tbl_of (List.mem_of_getElem? (i := 63) (by decide +kernel)) (by decide +kernel)
theorem kw_18 : (Jvm.Cond.instanceMethod ({ cls := "CoastLamps", name := "<init>", desc := "()V" } : Jvm.MethodName)) ∈ tbl := tbl_of (List.mem_of_getElem? (i := 64) (by decide +kernel)) (by decide +kernel)
theorem kw_19 : (Jvm.Cond.code ({ cls := "CoastLamps", name := "<init>", desc := "()V" } : Jvm.MethodName) prog_1_method_1_code (1 : Nat) (Option.none : Option Jvm.ClassFile.FieldType)) ∈ tbl := tbl_of (List.mem_of_getElem? (i := 65) (by decide +kernel)) (by decide +kernel)
theorem kw_20 : (Jvm.Cond.methodLink "CoastLamps" (3 : Nat) ({ cls := "java/lang/Object", name := "<init>", desc := "()V" } : Jvm.MethodName)) ∈ tbl := tbl_of (List.mem_of_getElem? (i := 66) (by decide +kernel)) (by decide +kernel)
theorem kw_21 : (Jvm.Cond.instanceMethod ({ cls := "java/lang/Object", name := "<init>", desc := "()V" } : Jvm.MethodName)) ∈ tbl := tbl_of (List.mem_of_getElem? (i := 67) (by decide +kernel)) (by decide +kernel)
theorem kw_22 : (Jvm.Cond.code ({ cls := "java/lang/Object", name := "<init>", desc := "()V" } : Jvm.MethodName) object_method_1_code (1 : Nat) (Option.none : Option Jvm.ClassFile.FieldType)) ∈ tbl := tbl_of (List.mem_of_getElem? (i := 68) (by decide +kernel)) (by decide +kernel)
theorem kw_23 : (Jvm.Cond.classLink "CoastLamps" (9 : Nat) "CoastLamps$Coast") ∈ tbl := tbl_of (List.mem_of_getElem? (i := 69) (by decide +kernel)) (by decide +kernel)
theorem kw_24 : (Jvm.Cond.instantiable "CoastLamps$Coast" (3 : Nat)) ∈ tbl := tbl_of (List.mem_of_getElem? (i := 70) (by decide +kernel)) (by decide +kernel)
theorem kw_25 : (Jvm.Cond.methodLink "CoastLamps" (11 : Nat) ({ cls := "CoastLamps$Coast", name := "<init>", desc := "()V" } : Jvm.MethodName)) ∈ tbl := tbl_of (List.mem_of_getElem? (i := 71) (by decide +kernel)) (by decide +kernel)
theorem kw_26 : (Jvm.Cond.instanceMethod ({ cls := "CoastLamps$Coast", name := "<init>", desc := "()V" } : Jvm.MethodName)) ∈ tbl := tbl_of (List.mem_of_getElem? (i := 72) (by decide +kernel)) (by decide +kernel)
theorem kw_27 : (Jvm.Cond.code ({ cls := "CoastLamps$Coast", name := "<init>", desc := "()V" } : Jvm.MethodName) prog_3_method_1_code (1 : Nat) (Option.none : Option Jvm.ClassFile.FieldType)) ∈ tbl := tbl_of (List.mem_of_getElem? (i := 73) (by decide +kernel)) (by decide +kernel)
theorem kw_28 : (Jvm.Cond.methodLink "CoastLamps$Coast" (3 : Nat) ({ cls := "java/lang/Object", name := "<init>", desc := "()V" } : Jvm.MethodName)) ∈ tbl := tbl_of (List.mem_of_getElem? (i := 74) (by decide +kernel)) (by decide +kernel)
theorem kw_29 : (Jvm.Cond.fieldLink "CoastLamps$Coast" (9 : Nat) "CoastLamps$Coast" "dials" "[I") ∈ tbl := tbl_of (List.mem_of_getElem? (i := 75) (by decide +kernel)) (by decide +kernel)
theorem kw_30 : (Jvm.Cond.fieldLink "CoastLamps$Coast" (15 : Nat) "CoastLamps$Coast" "entries" "[I") ∈ tbl := tbl_of (List.mem_of_getElem? (i := 76) (by decide +kernel)) (by decide +kernel)
theorem kw_31 : (Jvm.Cond.fieldLink "CoastLamps$Coast" (18 : Nat) "CoastLamps$Coast" "written" "I") ∈ tbl := tbl_of (List.mem_of_getElem? (i := 77) (by decide +kernel)) (by decide +kernel)
theorem kw_32 : (Jvm.Cond.fieldLink "CoastLamps" (79 : Nat) "CoastLamps$Coast" "written" "I") ∈ tbl := tbl_of (List.mem_of_getElem? (i := 78) (by decide +kernel)) (by decide +kernel)
theorem kw_39 : (Jvm.Cond.superclass "CoastLamps$Coast" "java/lang/Object") ∈ tbl := tbl_of (List.mem_of_getElem? (i := 85) (by decide +kernel)) (by decide +kernel)
theorem kw_40 : (Jvm.Cond.arrayClass Jvm.ClassFile.FieldType.int) ∈ tbl := tbl_of (List.mem_of_getElem? (i := 86) (by decide +kernel)) (by decide +kernel)
theorem kw_41 : (Jvm.Cond.classLink "CoastLamps" (16 : Nat) "CoastLamps$Lamp") ∈ tbl := tbl_of (List.mem_of_getElem? (i := 87) (by decide +kernel)) (by decide +kernel)
theorem kw_42 : (Jvm.Cond.arrayOver (Jvm.ClassFile.FieldType.object "CoastLamps$Lamp")) ∈ lw_tbl := List.mem_of_getElem? (i := 88) (by decide +kernel)
theorem kw_43 : (Jvm.Cond.fieldLink "CoastLamps" (12 : Nat) "CoastLamps" "coast" "LCoastLamps$Coast;") ∈ tbl := tbl_of (List.mem_of_getElem? (i := 89) (by decide +kernel)) (by decide +kernel)
theorem kw_44 : (Jvm.Cond.fieldLink "CoastLamps" (18 : Nat) "CoastLamps" "lamps" "[LCoastLamps$Lamp;") ∈ tbl := tbl_of (List.mem_of_getElem? (i := 90) (by decide +kernel)) (by decide +kernel)
theorem kw_45 : (Jvm.Cond.fieldLink "CoastLamps" (34 : Nat) "CoastLamps" "lampCount" "I") ∈ tbl := tbl_of (List.mem_of_getElem? (i := 91) (by decide +kernel)) (by decide +kernel)
theorem kw_46 : (Jvm.Cond.fieldLink "CoastLamps" (98 : Nat) "CoastLamps" "nights" "I") ∈ tbl := tbl_of (List.mem_of_getElem? (i := 92) (by decide +kernel)) (by decide +kernel)
theorem kw_47 : (Jvm.Cond.fieldLink "CoastLamps" (126 : Nat) "CoastLamps" "acts" "I") ∈ tbl := tbl_of (List.mem_of_getElem? (i := 93) (by decide +kernel)) (by decide +kernel)
theorem kw_48 : (Jvm.Cond.fieldLink "CoastLamps" (114 : Nat) "CoastLamps" "latestBlown" "I") ∈ tbl := tbl_of (List.mem_of_getElem? (i := 94) (by decide +kernel)) (by decide +kernel)
theorem kw_49 : (Jvm.Cond.fieldLink "CoastLamps" (86 : Nat) "CoastLamps" "stored" "J") ∈ tbl := tbl_of (List.mem_of_getElem? (i := 95) (by decide +kernel)) (by decide +kernel)
theorem kw_64 : (Jvm.Cond.superclass "CoastLamps" "java/lang/Object") ∈ tbl := tbl_of (List.mem_of_getElem? (i := 110) (by decide +kernel)) (by decide +kernel)
theorem kw_65 : (Jvm.Cond.methodLink "CoastLampsLaw" (13 : Nat) ({ cls := "CoastLamps", name := "dial", desc := "(II)I" } : Jvm.MethodName)) ∈ tbl := tbl_of (List.mem_of_getElem? (i := 111) (by decide +kernel)) (by decide +kernel)
theorem kw_66 : (Jvm.Cond.instanceMethod ({ cls := "CoastLamps", name := "dial", desc := "(II)I" } : Jvm.MethodName)) ∈ tbl := tbl_of (List.mem_of_getElem? (i := 112) (by decide +kernel)) (by decide +kernel)
theorem kw_67 : (Jvm.Cond.selects "CoastLamps" ({ cls := "CoastLamps", name := "dial", desc := "(II)I" } : Jvm.MethodName) ({ cls := "CoastLamps", name := "dial", desc := "(II)I" } : Jvm.MethodName)) ∈ tbl := tbl_of (List.mem_of_getElem? (i := 113) (by decide +kernel)) (by decide +kernel)
theorem kw_68 : (Jvm.Cond.code ({ cls := "CoastLamps", name := "dial", desc := "(II)I" } : Jvm.MethodName) prog_1_method_2_code (4 : Nat) (Option.some Jvm.ClassFile.FieldType.int)) ∈ tbl := tbl_of (List.mem_of_getElem? (i := 114) (by decide +kernel)) (by decide +kernel)
theorem kw_69 : (Jvm.Cond.methodLink "CoastLamps" (22 : Nat) ({ cls := "CoastLamps", name := "within", desc := "(III)Z" } : Jvm.MethodName)) ∈ tbl := tbl_of (List.mem_of_getElem? (i := 115) (by decide +kernel)) (by decide +kernel)
theorem kw_70 : (Jvm.Cond.static ({ cls := "CoastLamps", name := "within", desc := "(III)Z" } : Jvm.MethodName)) ∈ tbl := tbl_of (List.mem_of_getElem? (i := 116) (by decide +kernel)) (by decide +kernel)
theorem kw_71 : (Jvm.Cond.code ({ cls := "CoastLamps", name := "within", desc := "(III)Z" } : Jvm.MethodName) prog_1_method_16_code (3 : Nat) (Option.some Jvm.ClassFile.FieldType.boolean)) ∈ tbl := tbl_of (List.mem_of_getElem? (i := 117) (by decide +kernel)) (by decide +kernel)
theorem kw_72 : (Jvm.Cond.methodLink "CoastLamps" (26 : Nat) ({ cls := "CoastLamps$Coast", name := "dialed", desc := "(I)I" } : Jvm.MethodName)) ∈ tbl := tbl_of (List.mem_of_getElem? (i := 118) (by decide +kernel)) (by decide +kernel)
theorem kw_73 : (Jvm.Cond.instanceMethod ({ cls := "CoastLamps$Coast", name := "dialed", desc := "(I)I" } : Jvm.MethodName)) ∈ tbl := tbl_of (List.mem_of_getElem? (i := 119) (by decide +kernel)) (by decide +kernel)
theorem kw_74 : (Jvm.Cond.selects "CoastLamps$Coast" ({ cls := "CoastLamps$Coast", name := "dialed", desc := "(I)I" } : Jvm.MethodName) ({ cls := "CoastLamps$Coast", name := "dialed", desc := "(I)I" } : Jvm.MethodName)) ∈ tbl := tbl_of (List.mem_of_getElem? (i := 120) (by decide +kernel)) (by decide +kernel)
theorem kw_75 : (Jvm.Cond.code ({ cls := "CoastLamps$Coast", name := "dialed", desc := "(I)I" } : Jvm.MethodName) prog_3_method_2_code (2 : Nat) (Option.some Jvm.ClassFile.FieldType.int)) ∈ tbl := tbl_of (List.mem_of_getElem? (i := 121) (by decide +kernel)) (by decide +kernel)
theorem kw_76 : (Jvm.Cond.methodLink "CoastLamps" (30 : Nat) ({ cls := "CoastLamps$Coast", name := "turn", desc := "(II)V" } : Jvm.MethodName)) ∈ tbl := tbl_of (List.mem_of_getElem? (i := 122) (by decide +kernel)) (by decide +kernel)
theorem kw_77 : (Jvm.Cond.instanceMethod ({ cls := "CoastLamps$Coast", name := "turn", desc := "(II)V" } : Jvm.MethodName)) ∈ tbl := tbl_of (List.mem_of_getElem? (i := 123) (by decide +kernel)) (by decide +kernel)
theorem kw_78 : (Jvm.Cond.selects "CoastLamps$Coast" ({ cls := "CoastLamps$Coast", name := "turn", desc := "(II)V" } : Jvm.MethodName) ({ cls := "CoastLamps$Coast", name := "turn", desc := "(II)V" } : Jvm.MethodName)) ∈ tbl := tbl_of (List.mem_of_getElem? (i := 124) (by decide +kernel)) (by decide +kernel)
theorem kw_79 : (Jvm.Cond.code ({ cls := "CoastLamps$Coast", name := "turn", desc := "(II)V" } : Jvm.MethodName) prog_3_method_3_code (3 : Nat) (Option.none : Option Jvm.ClassFile.FieldType)) ∈ tbl := tbl_of (List.mem_of_getElem? (i := 125) (by decide +kernel)) (by decide +kernel)
theorem kw_80 : (Jvm.Cond.methodLink "CoastLampsLaw" (18 : Nat) ({ cls := "CoastLamps", name := "lamp", desc := "(II)I" } : Jvm.MethodName)) ∈ tbl := tbl_of (List.mem_of_getElem? (i := 126) (by decide +kernel)) (by decide +kernel)
theorem kw_81 : (Jvm.Cond.instanceMethod ({ cls := "CoastLamps", name := "lamp", desc := "(II)I" } : Jvm.MethodName)) ∈ tbl := tbl_of (List.mem_of_getElem? (i := 127) (by decide +kernel)) (by decide +kernel)
theorem kw_82 : (Jvm.Cond.selects "CoastLamps" ({ cls := "CoastLamps", name := "lamp", desc := "(II)I" } : Jvm.MethodName) ({ cls := "CoastLamps", name := "lamp", desc := "(II)I" } : Jvm.MethodName)) ∈ tbl := tbl_of (List.mem_of_getElem? (i := 128) (by decide +kernel)) (by decide +kernel)
theorem kw_83 : (Jvm.Cond.code ({ cls := "CoastLamps", name := "lamp", desc := "(II)I" } : Jvm.MethodName) prog_1_method_3_code (4 : Nat) (Option.some Jvm.ClassFile.FieldType.int)) ∈ tbl := tbl_of (List.mem_of_getElem? (i := 129) (by decide +kernel)) (by decide +kernel)
theorem kw_84 : (Jvm.Cond.methodLink "CoastLamps" (38 : Nat) ({ cls := "CoastLamps", name := "made", desc := "(II)LCoastLamps$Lamp;" } : Jvm.MethodName)) ∈ tbl := tbl_of (List.mem_of_getElem? (i := 130) (by decide +kernel)) (by decide +kernel)
theorem kw_86 : (Jvm.Cond.instanceMethod ({ cls := "CoastLamps", name := "made", desc := "(II)LCoastLamps$Lamp;" } : Jvm.MethodName)) ∈ tbl := tbl_of (List.mem_of_getElem? (i := 132) (by decide +kernel)) (by decide +kernel)
theorem kw_87 : (Jvm.Cond.code ({ cls := "CoastLamps", name := "made", desc := "(II)LCoastLamps$Lamp;" } : Jvm.MethodName) prog_1_method_20_code (3 : Nat) (Option.some (Jvm.ClassFile.FieldType.object "CoastLamps$Lamp"))) ∈ tbl := tbl_of (List.mem_of_getElem? (i := 133) (by decide +kernel)) (by decide +kernel)
theorem kw_88 : (Jvm.Cond.classLink "CoastLamps" (132 : Nat) "CoastLamps$Oil") ∈ tbl := tbl_of (List.mem_of_getElem? (i := 134) (by decide +kernel)) (by decide +kernel)
theorem kw_89 : (Jvm.Cond.instantiable "CoastLamps$Oil" (6 : Nat)) ∈ tbl := tbl_of (List.mem_of_getElem? (i := 135) (by decide +kernel)) (by decide +kernel)
theorem kw_90 : (Jvm.Cond.methodLink "CoastLamps" (134 : Nat) ({ cls := "CoastLamps$Oil", name := "<init>", desc := "(LCoastLamps$Coast;II)V" } : Jvm.MethodName)) ∈ tbl := tbl_of (List.mem_of_getElem? (i := 136) (by decide +kernel)) (by decide +kernel)
theorem kw_91 : (Jvm.Cond.instanceMethod ({ cls := "CoastLamps$Oil", name := "<init>", desc := "(LCoastLamps$Coast;II)V" } : Jvm.MethodName)) ∈ tbl := tbl_of (List.mem_of_getElem? (i := 137) (by decide +kernel)) (by decide +kernel)
theorem kw_92 : (Jvm.Cond.code ({ cls := "CoastLamps$Oil", name := "<init>", desc := "(LCoastLamps$Coast;II)V" } : Jvm.MethodName) prog_8_method_1_code (4 : Nat) (Option.none : Option Jvm.ClassFile.FieldType)) ∈ tbl := tbl_of (List.mem_of_getElem? (i := 138) (by decide +kernel)) (by decide +kernel)
theorem kw_93 : (Jvm.Cond.methodLink "CoastLamps$Oil" (3 : Nat) ({ cls := "CoastLamps$Lamp", name := "<init>", desc := "(LCoastLamps$Coast;II)V" } : Jvm.MethodName)) ∈ tbl := tbl_of (List.mem_of_getElem? (i := 139) (by decide +kernel)) (by decide +kernel)
theorem kw_94 : (Jvm.Cond.instanceMethod ({ cls := "CoastLamps$Lamp", name := "<init>", desc := "(LCoastLamps$Coast;II)V" } : Jvm.MethodName)) ∈ tbl := tbl_of (List.mem_of_getElem? (i := 140) (by decide +kernel)) (by decide +kernel)
theorem kw_95 : (Jvm.Cond.code ({ cls := "CoastLamps$Lamp", name := "<init>", desc := "(LCoastLamps$Coast;II)V" } : Jvm.MethodName) prog_7_method_1_code (4 : Nat) (Option.none : Option Jvm.ClassFile.FieldType)) ∈ tbl := tbl_of (List.mem_of_getElem? (i := 141) (by decide +kernel)) (by decide +kernel)
theorem kw_96 : (Jvm.Cond.methodLink "CoastLamps$Lamp" (3 : Nat) ({ cls := "java/lang/Object", name := "<init>", desc := "()V" } : Jvm.MethodName)) ∈ tbl := tbl_of (List.mem_of_getElem? (i := 142) (by decide +kernel)) (by decide +kernel)
theorem kw_97 : (Jvm.Cond.fieldLink "CoastLamps$Lamp" (9 : Nat) "CoastLamps$Lamp" "coast" "LCoastLamps$Coast;") ∈ tbl := tbl_of (List.mem_of_getElem? (i := 143) (by decide +kernel)) (by decide +kernel)
theorem kw_98 : (Jvm.Cond.fieldLink "CoastLamps$Oil" (9 : Nat) "CoastLamps$Oil" "coast" "LCoastLamps$Coast;") ∈ tbl := tbl_of (List.mem_of_getElem? (i := 144) (by decide +kernel)) (by decide +kernel)
theorem kw_99 : (Jvm.Cond.sameField "CoastLamps$Oil" "CoastLamps$Lamp" "coast" "LCoastLamps$Coast;") ∈ tbl := tbl_of (List.mem_of_getElem? (i := 145) (by decide +kernel)) (by decide +kernel)
theorem kw_100 : (Jvm.Cond.fieldLink "CoastLamps$Outer" (9 : Nat) "CoastLamps$Outer" "coast" "LCoastLamps$Coast;") ∈ tbl := tbl_of (List.mem_of_getElem? (i := 146) (by decide +kernel)) (by decide +kernel)
theorem kw_101 : (Jvm.Cond.sameField "CoastLamps$Outer" "CoastLamps$Lamp" "coast" "LCoastLamps$Coast;") ∈ tbl := tbl_of (List.mem_of_getElem? (i := 147) (by decide +kernel)) (by decide +kernel)
theorem kw_102 : (Jvm.Cond.fieldLink "CoastLamps$Swing" (9 : Nat) "CoastLamps$Swing" "coast" "LCoastLamps$Coast;") ∈ tbl := tbl_of (List.mem_of_getElem? (i := 148) (by decide +kernel)) (by decide +kernel)
theorem kw_103 : (Jvm.Cond.sameField "CoastLamps$Swing" "CoastLamps$Lamp" "coast" "LCoastLamps$Coast;") ∈ tbl := tbl_of (List.mem_of_getElem? (i := 149) (by decide +kernel)) (by decide +kernel)
theorem kw_104 : (Jvm.Cond.fieldLink "CoastLamps$Buoy" (9 : Nat) "CoastLamps$Buoy" "coast" "LCoastLamps$Coast;") ∈ tbl := tbl_of (List.mem_of_getElem? (i := 150) (by decide +kernel)) (by decide +kernel)
theorem kw_105 : (Jvm.Cond.sameField "CoastLamps$Buoy" "CoastLamps$Lamp" "coast" "LCoastLamps$Coast;") ∈ tbl := tbl_of (List.mem_of_getElem? (i := 151) (by decide +kernel)) (by decide +kernel)
theorem kw_106 : (Jvm.Cond.fieldLink "CoastLamps$Gas" (9 : Nat) "CoastLamps$Gas" "coast" "LCoastLamps$Coast;") ∈ tbl := tbl_of (List.mem_of_getElem? (i := 152) (by decide +kernel)) (by decide +kernel)
theorem kw_107 : (Jvm.Cond.sameField "CoastLamps$Gas" "CoastLamps$Lamp" "coast" "LCoastLamps$Coast;") ∈ tbl := tbl_of (List.mem_of_getElem? (i := 153) (by decide +kernel)) (by decide +kernel)
theorem kw_108 : (Jvm.Cond.fieldLink "CoastLamps$Drum" (9 : Nat) "CoastLamps$Drum" "coast" "LCoastLamps$Coast;") ∈ tbl := tbl_of (List.mem_of_getElem? (i := 154) (by decide +kernel)) (by decide +kernel)
theorem kw_109 : (Jvm.Cond.sameField "CoastLamps$Drum" "CoastLamps$Lamp" "coast" "LCoastLamps$Coast;") ∈ tbl := tbl_of (List.mem_of_getElem? (i := 155) (by decide +kernel)) (by decide +kernel)
theorem kw_110 : (Jvm.Cond.fieldLink "CoastLamps$Round" (9 : Nat) "CoastLamps$Round" "coast" "LCoastLamps$Coast;") ∈ tbl := tbl_of (List.mem_of_getElem? (i := 156) (by decide +kernel)) (by decide +kernel)
theorem kw_111 : (Jvm.Cond.sameField "CoastLamps$Round" "CoastLamps$Lamp" "coast" "LCoastLamps$Coast;") ∈ tbl := tbl_of (List.mem_of_getElem? (i := 157) (by decide +kernel)) (by decide +kernel)
theorem kw_112 : (Jvm.Cond.fieldLink "CoastLamps$Flare" (9 : Nat) "CoastLamps$Flare" "coast" "LCoastLamps$Coast;") ∈ tbl := tbl_of (List.mem_of_getElem? (i := 158) (by decide +kernel)) (by decide +kernel)
theorem kw_113 : (Jvm.Cond.sameField "CoastLamps$Flare" "CoastLamps$Lamp" "coast" "LCoastLamps$Coast;") ∈ tbl := tbl_of (List.mem_of_getElem? (i := 159) (by decide +kernel)) (by decide +kernel)
theorem kw_114 : (Jvm.Cond.fieldLink "CoastLamps$Twin" (9 : Nat) "CoastLamps$Twin" "coast" "LCoastLamps$Coast;") ∈ tbl := tbl_of (List.mem_of_getElem? (i := 160) (by decide +kernel)) (by decide +kernel)
theorem kw_115 : (Jvm.Cond.sameField "CoastLamps$Twin" "CoastLamps$Lamp" "coast" "LCoastLamps$Coast;") ∈ tbl := tbl_of (List.mem_of_getElem? (i := 161) (by decide +kernel)) (by decide +kernel)
theorem kw_116 : (Jvm.Cond.fieldLink "CoastLamps$Lamp" (15 : Nat) "CoastLamps$Lamp" "kind" "I") ∈ tbl := tbl_of (List.mem_of_getElem? (i := 162) (by decide +kernel)) (by decide +kernel)
theorem kw_117 : (Jvm.Cond.fieldLink "CoastLamps" (117 : Nat) "CoastLamps$Lamp" "kind" "I") ∈ tbl := tbl_of (List.mem_of_getElem? (i := 163) (by decide +kernel)) (by decide +kernel)
theorem kw_118 : (Jvm.Cond.fieldLink "CoastLamps$Lamp" (19 : Nat) "CoastLamps$Lamp" "height" "I") ∈ tbl := tbl_of (List.mem_of_getElem? (i := 164) (by decide +kernel)) (by decide +kernel)
theorem kw_119 : (Jvm.Cond.fieldLink "CoastLamps" (120 : Nat) "CoastLamps$Lamp" "height" "I") ∈ tbl := tbl_of (List.mem_of_getElem? (i := 165) (by decide +kernel)) (by decide +kernel)
theorem kw_120 : (Jvm.Cond.fieldLink "CoastLamps$Lamp" (22 : Nat) "CoastLamps$Lamp" "tank" "I") ∈ tbl := tbl_of (List.mem_of_getElem? (i := 166) (by decide +kernel)) (by decide +kernel)
theorem kw_121 : (Jvm.Cond.fieldLink "CoastLamps$Outer" (41 : Nat) "CoastLamps$Outer" "tank" "I") ∈ tbl := tbl_of (List.mem_of_getElem? (i := 167) (by decide +kernel)) (by decide +kernel)
theorem kw_122 : (Jvm.Cond.sameField "CoastLamps$Outer" "CoastLamps$Lamp" "tank" "I") ∈ tbl := tbl_of (List.mem_of_getElem? (i := 168) (by decide +kernel)) (by decide +kernel)
theorem kw_123 : (Jvm.Cond.fieldLink "CoastLamps" (90 : Nat) "CoastLamps$Lamp" "tank" "I") ∈ tbl := tbl_of (List.mem_of_getElem? (i := 169) (by decide +kernel)) (by decide +kernel)
theorem kw_124 : (Jvm.Cond.fieldLink "CoastLamps$Gas" (25 : Nat) "CoastLamps$Gas" "soot" "I") ∈ tbl := tbl_of (List.mem_of_getElem? (i := 170) (by decide +kernel)) (by decide +kernel)
theorem kw_125 : (Jvm.Cond.sameField "CoastLamps$Gas" "CoastLamps$Lamp" "soot" "I") ∈ tbl := tbl_of (List.mem_of_getElem? (i := 171) (by decide +kernel)) (by decide +kernel)
theorem kw_126 : (Jvm.Cond.fieldLink "CoastLamps$Oil" (25 : Nat) "CoastLamps$Oil" "soot" "I") ∈ tbl := tbl_of (List.mem_of_getElem? (i := 172) (by decide +kernel)) (by decide +kernel)
theorem kw_127 : (Jvm.Cond.sameField "CoastLamps$Oil" "CoastLamps$Lamp" "soot" "I") ∈ tbl := tbl_of (List.mem_of_getElem? (i := 173) (by decide +kernel)) (by decide +kernel)
theorem kw_128 : (Jvm.Cond.fieldLink "CoastLamps$Lamp" (35 : Nat) "CoastLamps$Lamp" "soot" "I") ∈ tbl := tbl_of (List.mem_of_getElem? (i := 174) (by decide +kernel)) (by decide +kernel)
theorem kw_129 : (Jvm.Cond.fieldLink "CoastLamps$Flare" (32 : Nat) "CoastLamps$Flare" "soot" "I") ∈ tbl := tbl_of (List.mem_of_getElem? (i := 175) (by decide +kernel)) (by decide +kernel)
theorem kw_130 : (Jvm.Cond.sameField "CoastLamps$Flare" "CoastLamps$Lamp" "soot" "I") ∈ tbl := tbl_of (List.mem_of_getElem? (i := 176) (by decide +kernel)) (by decide +kernel)
theorem kw_131 : (Jvm.Cond.fieldLink "CoastLamps" (123 : Nat) "CoastLamps$Lamp" "soot" "I") ∈ tbl := tbl_of (List.mem_of_getElem? (i := 177) (by decide +kernel)) (by decide +kernel)
theorem kw_132 : (Jvm.Cond.fieldLink "CoastLamps$Lamp" (25 : Nat) "CoastLamps$Lamp" "lit" "Z") ∈ tbl := tbl_of (List.mem_of_getElem? (i := 178) (by decide +kernel)) (by decide +kernel)
theorem kw_133 : (Jvm.Cond.fieldLink "CoastLamps" (94 : Nat) "CoastLamps$Lamp" "lit" "Z") ∈ tbl := tbl_of (List.mem_of_getElem? (i := 179) (by decide +kernel)) (by decide +kernel)
theorem kw_146 : (Jvm.Cond.superclass "CoastLamps$Oil" "CoastLamps$Lamp") ∈ tbl := tbl_of (List.mem_of_getElem? (i := 192) (by decide +kernel)) (by decide +kernel)
theorem kw_147 : (Jvm.Cond.classLink "CoastLamps" (137 : Nat) "CoastLamps$Round") ∈ tbl := tbl_of (List.mem_of_getElem? (i := 193) (by decide +kernel)) (by decide +kernel)
theorem kw_148 : (Jvm.Cond.instantiable "CoastLamps$Round" (6 : Nat)) ∈ tbl := tbl_of (List.mem_of_getElem? (i := 194) (by decide +kernel)) (by decide +kernel)
theorem kw_149 : (Jvm.Cond.methodLink "CoastLamps" (139 : Nat) ({ cls := "CoastLamps$Round", name := "<init>", desc := "(LCoastLamps$Coast;II)V" } : Jvm.MethodName)) ∈ tbl := tbl_of (List.mem_of_getElem? (i := 195) (by decide +kernel)) (by decide +kernel)
theorem kw_150 : (Jvm.Cond.instanceMethod ({ cls := "CoastLamps$Round", name := "<init>", desc := "(LCoastLamps$Coast;II)V" } : Jvm.MethodName)) ∈ tbl := tbl_of (List.mem_of_getElem? (i := 196) (by decide +kernel)) (by decide +kernel)
theorem kw_151 : (Jvm.Cond.code ({ cls := "CoastLamps$Round", name := "<init>", desc := "(LCoastLamps$Coast;II)V" } : Jvm.MethodName) prog_10_method_1_code (4 : Nat) (Option.none : Option Jvm.ClassFile.FieldType)) ∈ tbl := tbl_of (List.mem_of_getElem? (i := 197) (by decide +kernel)) (by decide +kernel)
theorem kw_152 : (Jvm.Cond.methodLink "CoastLamps$Round" (3 : Nat) ({ cls := "CoastLamps$Oil", name := "<init>", desc := "(LCoastLamps$Coast;II)V" } : Jvm.MethodName)) ∈ tbl := tbl_of (List.mem_of_getElem? (i := 198) (by decide +kernel)) (by decide +kernel)
theorem kw_159 : (Jvm.Cond.superclass "CoastLamps$Round" "CoastLamps$Oil") ∈ tbl := tbl_of (List.mem_of_getElem? (i := 205) (by decide +kernel)) (by decide +kernel)
theorem kw_160 : (Jvm.Cond.classLink "CoastLamps" (140 : Nat) "CoastLamps$Twin") ∈ tbl := tbl_of (List.mem_of_getElem? (i := 206) (by decide +kernel)) (by decide +kernel)
theorem kw_161 : (Jvm.Cond.instantiable "CoastLamps$Twin" (6 : Nat)) ∈ tbl := tbl_of (List.mem_of_getElem? (i := 207) (by decide +kernel)) (by decide +kernel)
theorem kw_162 : (Jvm.Cond.methodLink "CoastLamps" (142 : Nat) ({ cls := "CoastLamps$Twin", name := "<init>", desc := "(LCoastLamps$Coast;II)V" } : Jvm.MethodName)) ∈ tbl := tbl_of (List.mem_of_getElem? (i := 208) (by decide +kernel)) (by decide +kernel)
theorem kw_163 : (Jvm.Cond.instanceMethod ({ cls := "CoastLamps$Twin", name := "<init>", desc := "(LCoastLamps$Coast;II)V" } : Jvm.MethodName)) ∈ tbl := tbl_of (List.mem_of_getElem? (i := 209) (by decide +kernel)) (by decide +kernel)
theorem kw_164 : (Jvm.Cond.code ({ cls := "CoastLamps$Twin", name := "<init>", desc := "(LCoastLamps$Coast;II)V" } : Jvm.MethodName) prog_12_method_1_code (4 : Nat) (Option.none : Option Jvm.ClassFile.FieldType)) ∈ tbl := tbl_of (List.mem_of_getElem? (i := 210) (by decide +kernel)) (by decide +kernel)
theorem kw_165 : (Jvm.Cond.methodLink "CoastLamps$Twin" (3 : Nat) ({ cls := "CoastLamps$Round", name := "<init>", desc := "(LCoastLamps$Coast;II)V" } : Jvm.MethodName)) ∈ tbl := tbl_of (List.mem_of_getElem? (i := 211) (by decide +kernel)) (by decide +kernel)
theorem kw_172 : (Jvm.Cond.superclass "CoastLamps$Twin" "CoastLamps$Round") ∈ tbl := tbl_of (List.mem_of_getElem? (i := 218) (by decide +kernel)) (by decide +kernel)
theorem kw_173 : (Jvm.Cond.classLink "CoastLamps" (143 : Nat) "CoastLamps$Drum") ∈ tbl := tbl_of (List.mem_of_getElem? (i := 219) (by decide +kernel)) (by decide +kernel)
theorem kw_174 : (Jvm.Cond.instantiable "CoastLamps$Drum" (6 : Nat)) ∈ tbl := tbl_of (List.mem_of_getElem? (i := 220) (by decide +kernel)) (by decide +kernel)
theorem kw_175 : (Jvm.Cond.methodLink "CoastLamps" (145 : Nat) ({ cls := "CoastLamps$Drum", name := "<init>", desc := "(LCoastLamps$Coast;II)V" } : Jvm.MethodName)) ∈ tbl := tbl_of (List.mem_of_getElem? (i := 221) (by decide +kernel)) (by decide +kernel)
theorem kw_176 : (Jvm.Cond.instanceMethod ({ cls := "CoastLamps$Drum", name := "<init>", desc := "(LCoastLamps$Coast;II)V" } : Jvm.MethodName)) ∈ tbl := tbl_of (List.mem_of_getElem? (i := 222) (by decide +kernel)) (by decide +kernel)
theorem kw_177 : (Jvm.Cond.code ({ cls := "CoastLamps$Drum", name := "<init>", desc := "(LCoastLamps$Coast;II)V" } : Jvm.MethodName) prog_4_method_1_code (4 : Nat) (Option.none : Option Jvm.ClassFile.FieldType)) ∈ tbl := tbl_of (List.mem_of_getElem? (i := 223) (by decide +kernel)) (by decide +kernel)
theorem kw_178 : (Jvm.Cond.methodLink "CoastLamps$Drum" (3 : Nat) ({ cls := "CoastLamps$Twin", name := "<init>", desc := "(LCoastLamps$Coast;II)V" } : Jvm.MethodName)) ∈ tbl := tbl_of (List.mem_of_getElem? (i := 224) (by decide +kernel)) (by decide +kernel)
theorem kw_185 : (Jvm.Cond.superclass "CoastLamps$Drum" "CoastLamps$Twin") ∈ tbl := tbl_of (List.mem_of_getElem? (i := 231) (by decide +kernel)) (by decide +kernel)
theorem kw_186 : (Jvm.Cond.classLink "CoastLamps" (146 : Nat) "CoastLamps$Swing") ∈ tbl := tbl_of (List.mem_of_getElem? (i := 232) (by decide +kernel)) (by decide +kernel)
theorem kw_187 : (Jvm.Cond.instantiable "CoastLamps$Swing" (6 : Nat)) ∈ tbl := tbl_of (List.mem_of_getElem? (i := 233) (by decide +kernel)) (by decide +kernel)
theorem kw_188 : (Jvm.Cond.methodLink "CoastLamps" (148 : Nat) ({ cls := "CoastLamps$Swing", name := "<init>", desc := "(LCoastLamps$Coast;II)V" } : Jvm.MethodName)) ∈ tbl := tbl_of (List.mem_of_getElem? (i := 234) (by decide +kernel)) (by decide +kernel)
theorem kw_189 : (Jvm.Cond.instanceMethod ({ cls := "CoastLamps$Swing", name := "<init>", desc := "(LCoastLamps$Coast;II)V" } : Jvm.MethodName)) ∈ tbl := tbl_of (List.mem_of_getElem? (i := 235) (by decide +kernel)) (by decide +kernel)
theorem kw_190 : (Jvm.Cond.code ({ cls := "CoastLamps$Swing", name := "<init>", desc := "(LCoastLamps$Coast;II)V" } : Jvm.MethodName) prog_11_method_1_code (4 : Nat) (Option.none : Option Jvm.ClassFile.FieldType)) ∈ tbl := tbl_of (List.mem_of_getElem? (i := 236) (by decide +kernel)) (by decide +kernel)
theorem kw_191 : (Jvm.Cond.methodLink "CoastLamps$Swing" (3 : Nat) ({ cls := "CoastLamps$Drum", name := "<init>", desc := "(LCoastLamps$Coast;II)V" } : Jvm.MethodName)) ∈ tbl := tbl_of (List.mem_of_getElem? (i := 237) (by decide +kernel)) (by decide +kernel)
theorem kw_198 : (Jvm.Cond.superclass "CoastLamps$Swing" "CoastLamps$Drum") ∈ tbl := tbl_of (List.mem_of_getElem? (i := 244) (by decide +kernel)) (by decide +kernel)
theorem kw_199 : (Jvm.Cond.classLink "CoastLamps" (149 : Nat) "CoastLamps$Gas") ∈ tbl := tbl_of (List.mem_of_getElem? (i := 245) (by decide +kernel)) (by decide +kernel)
theorem kw_200 : (Jvm.Cond.instantiable "CoastLamps$Gas" (6 : Nat)) ∈ tbl := tbl_of (List.mem_of_getElem? (i := 246) (by decide +kernel)) (by decide +kernel)
theorem kw_201 : (Jvm.Cond.methodLink "CoastLamps" (151 : Nat) ({ cls := "CoastLamps$Gas", name := "<init>", desc := "(LCoastLamps$Coast;II)V" } : Jvm.MethodName)) ∈ tbl := tbl_of (List.mem_of_getElem? (i := 247) (by decide +kernel)) (by decide +kernel)
theorem kw_202 : (Jvm.Cond.instanceMethod ({ cls := "CoastLamps$Gas", name := "<init>", desc := "(LCoastLamps$Coast;II)V" } : Jvm.MethodName)) ∈ tbl := tbl_of (List.mem_of_getElem? (i := 248) (by decide +kernel)) (by decide +kernel)
theorem kw_203 : (Jvm.Cond.code ({ cls := "CoastLamps$Gas", name := "<init>", desc := "(LCoastLamps$Coast;II)V" } : Jvm.MethodName) prog_6_method_1_code (4 : Nat) (Option.none : Option Jvm.ClassFile.FieldType)) ∈ tbl := tbl_of (List.mem_of_getElem? (i := 249) (by decide +kernel)) (by decide +kernel)
theorem kw_204 : (Jvm.Cond.methodLink "CoastLamps$Gas" (3 : Nat) ({ cls := "CoastLamps$Lamp", name := "<init>", desc := "(LCoastLamps$Coast;II)V" } : Jvm.MethodName)) ∈ tbl := tbl_of (List.mem_of_getElem? (i := 250) (by decide +kernel)) (by decide +kernel)
theorem kw_211 : (Jvm.Cond.superclass "CoastLamps$Gas" "CoastLamps$Lamp") ∈ tbl := tbl_of (List.mem_of_getElem? (i := 257) (by decide +kernel)) (by decide +kernel)
theorem kw_212 : (Jvm.Cond.classLink "CoastLamps" (152 : Nat) "CoastLamps$Flare") ∈ tbl := tbl_of (List.mem_of_getElem? (i := 258) (by decide +kernel)) (by decide +kernel)
theorem kw_213 : (Jvm.Cond.instantiable "CoastLamps$Flare" (6 : Nat)) ∈ tbl := tbl_of (List.mem_of_getElem? (i := 259) (by decide +kernel)) (by decide +kernel)
theorem kw_214 : (Jvm.Cond.methodLink "CoastLamps" (154 : Nat) ({ cls := "CoastLamps$Flare", name := "<init>", desc := "(LCoastLamps$Coast;II)V" } : Jvm.MethodName)) ∈ tbl := tbl_of (List.mem_of_getElem? (i := 260) (by decide +kernel)) (by decide +kernel)
theorem kw_215 : (Jvm.Cond.instanceMethod ({ cls := "CoastLamps$Flare", name := "<init>", desc := "(LCoastLamps$Coast;II)V" } : Jvm.MethodName)) ∈ tbl := tbl_of (List.mem_of_getElem? (i := 261) (by decide +kernel)) (by decide +kernel)
theorem kw_216 : (Jvm.Cond.code ({ cls := "CoastLamps$Flare", name := "<init>", desc := "(LCoastLamps$Coast;II)V" } : Jvm.MethodName) prog_5_method_1_code (4 : Nat) (Option.none : Option Jvm.ClassFile.FieldType)) ∈ tbl := tbl_of (List.mem_of_getElem? (i := 262) (by decide +kernel)) (by decide +kernel)
theorem kw_217 : (Jvm.Cond.methodLink "CoastLamps$Flare" (3 : Nat) ({ cls := "CoastLamps$Gas", name := "<init>", desc := "(LCoastLamps$Coast;II)V" } : Jvm.MethodName)) ∈ tbl := tbl_of (List.mem_of_getElem? (i := 263) (by decide +kernel)) (by decide +kernel)
theorem kw_224 : (Jvm.Cond.superclass "CoastLamps$Flare" "CoastLamps$Gas") ∈ tbl := tbl_of (List.mem_of_getElem? (i := 270) (by decide +kernel)) (by decide +kernel)
theorem kw_225 : (Jvm.Cond.classLink "CoastLamps" (155 : Nat) "CoastLamps$Buoy") ∈ tbl := tbl_of (List.mem_of_getElem? (i := 271) (by decide +kernel)) (by decide +kernel)
theorem kw_226 : (Jvm.Cond.instantiable "CoastLamps$Buoy" (6 : Nat)) ∈ tbl := tbl_of (List.mem_of_getElem? (i := 272) (by decide +kernel)) (by decide +kernel)
theorem kw_227 : (Jvm.Cond.methodLink "CoastLamps" (157 : Nat) ({ cls := "CoastLamps$Buoy", name := "<init>", desc := "(LCoastLamps$Coast;II)V" } : Jvm.MethodName)) ∈ tbl := tbl_of (List.mem_of_getElem? (i := 273) (by decide +kernel)) (by decide +kernel)
theorem kw_228 : (Jvm.Cond.instanceMethod ({ cls := "CoastLamps$Buoy", name := "<init>", desc := "(LCoastLamps$Coast;II)V" } : Jvm.MethodName)) ∈ tbl := tbl_of (List.mem_of_getElem? (i := 274) (by decide +kernel)) (by decide +kernel)
theorem kw_229 : (Jvm.Cond.code ({ cls := "CoastLamps$Buoy", name := "<init>", desc := "(LCoastLamps$Coast;II)V" } : Jvm.MethodName) prog_2_method_1_code (4 : Nat) (Option.none : Option Jvm.ClassFile.FieldType)) ∈ tbl := tbl_of (List.mem_of_getElem? (i := 275) (by decide +kernel)) (by decide +kernel)
theorem kw_230 : (Jvm.Cond.methodLink "CoastLamps$Buoy" (3 : Nat) ({ cls := "CoastLamps$Flare", name := "<init>", desc := "(LCoastLamps$Coast;II)V" } : Jvm.MethodName)) ∈ tbl := tbl_of (List.mem_of_getElem? (i := 276) (by decide +kernel)) (by decide +kernel)
theorem kw_237 : (Jvm.Cond.superclass "CoastLamps$Buoy" "CoastLamps$Flare") ∈ tbl := tbl_of (List.mem_of_getElem? (i := 283) (by decide +kernel)) (by decide +kernel)
theorem kw_238 : (Jvm.Cond.classLink "CoastLamps" (158 : Nat) "CoastLamps$Outer") ∈ tbl := tbl_of (List.mem_of_getElem? (i := 284) (by decide +kernel)) (by decide +kernel)
theorem kw_239 : (Jvm.Cond.instantiable "CoastLamps$Outer" (6 : Nat)) ∈ tbl := tbl_of (List.mem_of_getElem? (i := 285) (by decide +kernel)) (by decide +kernel)
theorem kw_240 : (Jvm.Cond.methodLink "CoastLamps" (160 : Nat) ({ cls := "CoastLamps$Outer", name := "<init>", desc := "(LCoastLamps$Coast;II)V" } : Jvm.MethodName)) ∈ tbl := tbl_of (List.mem_of_getElem? (i := 286) (by decide +kernel)) (by decide +kernel)
theorem kw_241 : (Jvm.Cond.instanceMethod ({ cls := "CoastLamps$Outer", name := "<init>", desc := "(LCoastLamps$Coast;II)V" } : Jvm.MethodName)) ∈ tbl := tbl_of (List.mem_of_getElem? (i := 287) (by decide +kernel)) (by decide +kernel)
theorem kw_242 : (Jvm.Cond.code ({ cls := "CoastLamps$Outer", name := "<init>", desc := "(LCoastLamps$Coast;II)V" } : Jvm.MethodName) prog_9_method_1_code (4 : Nat) (Option.none : Option Jvm.ClassFile.FieldType)) ∈ tbl := tbl_of (List.mem_of_getElem? (i := 288) (by decide +kernel)) (by decide +kernel)
theorem kw_243 : (Jvm.Cond.methodLink "CoastLamps$Outer" (3 : Nat) ({ cls := "CoastLamps$Buoy", name := "<init>", desc := "(LCoastLamps$Coast;II)V" } : Jvm.MethodName)) ∈ tbl := tbl_of (List.mem_of_getElem? (i := 289) (by decide +kernel)) (by decide +kernel)
theorem kw_250 : (Jvm.Cond.superclass "CoastLamps$Outer" "CoastLamps$Buoy") ∈ tbl := tbl_of (List.mem_of_getElem? (i := 296) (by decide +kernel)) (by decide +kernel)
theorem kw_251 : (Jvm.Cond.methodLink "CoastLampsLaw" (22 : Nat) ({ cls := "CoastLamps", name := "ask", desc := "(III)J" } : Jvm.MethodName)) ∈ tbl := tbl_of (List.mem_of_getElem? (i := 297) (by decide +kernel)) (by decide +kernel)
theorem kw_252 : (Jvm.Cond.instanceMethod ({ cls := "CoastLamps", name := "ask", desc := "(III)J" } : Jvm.MethodName)) ∈ tbl := tbl_of (List.mem_of_getElem? (i := 298) (by decide +kernel)) (by decide +kernel)
theorem kw_253 : (Jvm.Cond.selects "CoastLamps" ({ cls := "CoastLamps", name := "ask", desc := "(III)J" } : Jvm.MethodName) ({ cls := "CoastLamps", name := "ask", desc := "(III)J" } : Jvm.MethodName)) ∈ tbl := tbl_of (List.mem_of_getElem? (i := 299) (by decide +kernel)) (by decide +kernel)
theorem kw_254 : (Jvm.Cond.code ({ cls := "CoastLamps", name := "ask", desc := "(III)J" } : Jvm.MethodName) prog_1_method_4_code (5 : Nat) (Option.some Jvm.ClassFile.FieldType.long)) ∈ tbl := tbl_of (List.mem_of_getElem? (i := 300) (by decide +kernel)) (by decide +kernel)
theorem kw_255 : (Jvm.Cond.methodLink "CoastLamps" (42 : Nat) ({ cls := "CoastLamps", name := "lampAt", desc := "(I)LCoastLamps$Lamp;" } : Jvm.MethodName)) ∈ tbl := tbl_of (List.mem_of_getElem? (i := 301) (by decide +kernel)) (by decide +kernel)
theorem kw_257 : (Jvm.Cond.instanceMethod ({ cls := "CoastLamps", name := "lampAt", desc := "(I)LCoastLamps$Lamp;" } : Jvm.MethodName)) ∈ tbl := tbl_of (List.mem_of_getElem? (i := 303) (by decide +kernel)) (by decide +kernel)
theorem kw_258 : (Jvm.Cond.code ({ cls := "CoastLamps", name := "lampAt", desc := "(I)LCoastLamps$Lamp;" } : Jvm.MethodName) prog_1_method_17_code (2 : Nat) (Option.some (Jvm.ClassFile.FieldType.object "CoastLamps$Lamp"))) ∈ tbl := tbl_of (List.mem_of_getElem? (i := 304) (by decide +kernel)) (by decide +kernel)
theorem kw_259 : (Jvm.Cond.constantLong "CoastLamps" (46 : Nat) (-9223372036854775808 : Int64)) ∈ tbl := tbl_of (List.mem_of_getElem? (i := 305) (by decide +kernel)) (by decide +kernel)
theorem kw_260 : (Jvm.Cond.methodLink "CoastLamps" (48 : Nat) ({ cls := "CoastLamps", name := "beginAct", desc := "()V" } : Jvm.MethodName)) ∈ tbl := tbl_of (List.mem_of_getElem? (i := 306) (by decide +kernel)) (by decide +kernel)
theorem kw_262 : (Jvm.Cond.instanceMethod ({ cls := "CoastLamps", name := "beginAct", desc := "()V" } : Jvm.MethodName)) ∈ tbl := tbl_of (List.mem_of_getElem? (i := 308) (by decide +kernel)) (by decide +kernel)
theorem kw_263 : (Jvm.Cond.code ({ cls := "CoastLamps", name := "beginAct", desc := "()V" } : Jvm.MethodName) prog_1_method_19_code (1 : Nat) (Option.none : Option Jvm.ClassFile.FieldType)) ∈ tbl := tbl_of (List.mem_of_getElem? (i := 309) (by decide +kernel)) (by decide +kernel)
theorem kw_264 : (Jvm.Cond.methodLink "CoastLamps" (129 : Nat) ({ cls := "CoastLamps$Coast", name := "wipe", desc := "()V" } : Jvm.MethodName)) ∈ tbl := tbl_of (List.mem_of_getElem? (i := 310) (by decide +kernel)) (by decide +kernel)
theorem kw_265 : (Jvm.Cond.instanceMethod ({ cls := "CoastLamps$Coast", name := "wipe", desc := "()V" } : Jvm.MethodName)) ∈ tbl := tbl_of (List.mem_of_getElem? (i := 311) (by decide +kernel)) (by decide +kernel)
theorem kw_266 : (Jvm.Cond.selects "CoastLamps$Coast" ({ cls := "CoastLamps$Coast", name := "wipe", desc := "()V" } : Jvm.MethodName) ({ cls := "CoastLamps$Coast", name := "wipe", desc := "()V" } : Jvm.MethodName)) ∈ tbl := tbl_of (List.mem_of_getElem? (i := 312) (by decide +kernel)) (by decide +kernel)
theorem kw_267 : (Jvm.Cond.code ({ cls := "CoastLamps$Coast", name := "wipe", desc := "()V" } : Jvm.MethodName) prog_3_method_5_code (1 : Nat) (Option.none : Option Jvm.ClassFile.FieldType)) ∈ tbl := tbl_of (List.mem_of_getElem? (i := 313) (by decide +kernel)) (by decide +kernel)
theorem kw_268 : (Jvm.Cond.methodLink "CoastLamps" (51 : Nat) ({ cls := "CoastLamps$Lamp", name := "horned", desc := "()Z" } : Jvm.MethodName)) ∈ tbl := tbl_of (List.mem_of_getElem? (i := 314) (by decide +kernel)) (by decide +kernel)
theorem kw_269 : (Jvm.Cond.instanceMethod ({ cls := "CoastLamps$Lamp", name := "horned", desc := "()Z" } : Jvm.MethodName)) ∈ tbl := tbl_of (List.mem_of_getElem? (i := 315) (by decide +kernel)) (by decide +kernel)
theorem kw_270 : (Jvm.Cond.sameMethod "CoastLamps$Lamp" "CoastLamps$Lamp" "horned" "()Z") ∈ tbl := tbl_of (List.mem_of_getElem? (i := 316) (by decide +kernel)) (by decide +kernel)
theorem kw_271 : (Jvm.Cond.selects "CoastLamps$Buoy" ({ cls := "CoastLamps$Lamp", name := "horned", desc := "()Z" } : Jvm.MethodName) ({ cls := "CoastLamps$Flare", name := "horned", desc := "()Z" } : Jvm.MethodName)) ∈ tbl := tbl_of (List.mem_of_getElem? (i := 317) (by decide +kernel)) (by decide +kernel)
theorem kw_272 : (Jvm.Cond.instanceMethod ({ cls := "CoastLamps$Flare", name := "horned", desc := "()Z" } : Jvm.MethodName)) ∈ tbl := tbl_of (List.mem_of_getElem? (i := 318) (by decide +kernel)) (by decide +kernel)
theorem kw_273 : (Jvm.Cond.code ({ cls := "CoastLamps$Flare", name := "horned", desc := "()Z" } : Jvm.MethodName) prog_5_method_2_code (1 : Nat) (Option.some Jvm.ClassFile.FieldType.boolean)) ∈ tbl := tbl_of (List.mem_of_getElem? (i := 319) (by decide +kernel)) (by decide +kernel)
theorem kw_274 : (Jvm.Cond.selects "CoastLamps$Drum" ({ cls := "CoastLamps$Lamp", name := "horned", desc := "()Z" } : Jvm.MethodName) ({ cls := "CoastLamps$Twin", name := "horned", desc := "()Z" } : Jvm.MethodName)) ∈ tbl := tbl_of (List.mem_of_getElem? (i := 320) (by decide +kernel)) (by decide +kernel)
theorem kw_275 : (Jvm.Cond.instanceMethod ({ cls := "CoastLamps$Twin", name := "horned", desc := "()Z" } : Jvm.MethodName)) ∈ tbl := tbl_of (List.mem_of_getElem? (i := 321) (by decide +kernel)) (by decide +kernel)
theorem kw_276 : (Jvm.Cond.code ({ cls := "CoastLamps$Twin", name := "horned", desc := "()Z" } : Jvm.MethodName) prog_12_method_2_code (1 : Nat) (Option.some Jvm.ClassFile.FieldType.boolean)) ∈ tbl := tbl_of (List.mem_of_getElem? (i := 322) (by decide +kernel)) (by decide +kernel)
theorem kw_277 : (Jvm.Cond.selects "CoastLamps$Flare" ({ cls := "CoastLamps$Lamp", name := "horned", desc := "()Z" } : Jvm.MethodName) ({ cls := "CoastLamps$Flare", name := "horned", desc := "()Z" } : Jvm.MethodName)) ∈ tbl := tbl_of (List.mem_of_getElem? (i := 323) (by decide +kernel)) (by decide +kernel)
theorem kw_278 : (Jvm.Cond.selects "CoastLamps$Gas" ({ cls := "CoastLamps$Lamp", name := "horned", desc := "()Z" } : Jvm.MethodName) ({ cls := "CoastLamps$Lamp", name := "horned", desc := "()Z" } : Jvm.MethodName)) ∈ tbl := tbl_of (List.mem_of_getElem? (i := 324) (by decide +kernel)) (by decide +kernel)
theorem kw_279 : (Jvm.Cond.selects "CoastLamps$Oil" ({ cls := "CoastLamps$Lamp", name := "horned", desc := "()Z" } : Jvm.MethodName) ({ cls := "CoastLamps$Lamp", name := "horned", desc := "()Z" } : Jvm.MethodName)) ∈ tbl := tbl_of (List.mem_of_getElem? (i := 325) (by decide +kernel)) (by decide +kernel)
theorem kw_280 : (Jvm.Cond.selects "CoastLamps$Outer" ({ cls := "CoastLamps$Lamp", name := "horned", desc := "()Z" } : Jvm.MethodName) ({ cls := "CoastLamps$Flare", name := "horned", desc := "()Z" } : Jvm.MethodName)) ∈ tbl := tbl_of (List.mem_of_getElem? (i := 326) (by decide +kernel)) (by decide +kernel)
theorem kw_281 : (Jvm.Cond.selects "CoastLamps$Round" ({ cls := "CoastLamps$Lamp", name := "horned", desc := "()Z" } : Jvm.MethodName) ({ cls := "CoastLamps$Lamp", name := "horned", desc := "()Z" } : Jvm.MethodName)) ∈ tbl := tbl_of (List.mem_of_getElem? (i := 327) (by decide +kernel)) (by decide +kernel)
theorem kw_282 : (Jvm.Cond.selects "CoastLamps$Swing" ({ cls := "CoastLamps$Lamp", name := "horned", desc := "()Z" } : Jvm.MethodName) ({ cls := "CoastLamps$Twin", name := "horned", desc := "()Z" } : Jvm.MethodName)) ∈ tbl := tbl_of (List.mem_of_getElem? (i := 328) (by decide +kernel)) (by decide +kernel)
theorem kw_283 : (Jvm.Cond.selects "CoastLamps$Twin" ({ cls := "CoastLamps$Lamp", name := "horned", desc := "()Z" } : Jvm.MethodName) ({ cls := "CoastLamps$Twin", name := "horned", desc := "()Z" } : Jvm.MethodName)) ∈ tbl := tbl_of (List.mem_of_getElem? (i := 329) (by decide +kernel)) (by decide +kernel)
theorem kw_284 : (Jvm.Cond.code ({ cls := "CoastLamps$Lamp", name := "horned", desc := "()Z" } : Jvm.MethodName) prog_7_method_3_code (1 : Nat) (Option.some Jvm.ClassFile.FieldType.boolean)) ∈ tbl := tbl_of (List.mem_of_getElem? (i := 330) (by decide +kernel)) (by decide +kernel)
theorem kw_285 : (Jvm.Cond.constantLong "CoastLamps" (55 : Nat) (-9223372036854775807 : Int64)) ∈ tbl := tbl_of (List.mem_of_getElem? (i := 331) (by decide +kernel)) (by decide +kernel)
theorem kw_286 : (Jvm.Cond.methodLink "CoastLamps" (57 : Nat) ({ cls := "CoastLamps$Lamp", name := "burn", desc := "(I)I" } : Jvm.MethodName)) ∈ tbl := tbl_of (List.mem_of_getElem? (i := 332) (by decide +kernel)) (by decide +kernel)
theorem kw_287 : (Jvm.Cond.instanceMethod ({ cls := "CoastLamps$Lamp", name := "burn", desc := "(I)I" } : Jvm.MethodName)) ∈ tbl := tbl_of (List.mem_of_getElem? (i := 333) (by decide +kernel)) (by decide +kernel)
theorem kw_288 : (Jvm.Cond.sameMethod "CoastLamps$Lamp" "CoastLamps$Lamp" "burn" "(I)I") ∈ tbl := tbl_of (List.mem_of_getElem? (i := 334) (by decide +kernel)) (by decide +kernel)
theorem kw_289 : (Jvm.Cond.selects "CoastLamps$Buoy" ({ cls := "CoastLamps$Lamp", name := "burn", desc := "(I)I" } : Jvm.MethodName) ({ cls := "CoastLamps$Flare", name := "burn", desc := "(I)I" } : Jvm.MethodName)) ∈ tbl := tbl_of (List.mem_of_getElem? (i := 335) (by decide +kernel)) (by decide +kernel)
theorem kw_290 : (Jvm.Cond.instanceMethod ({ cls := "CoastLamps$Flare", name := "burn", desc := "(I)I" } : Jvm.MethodName)) ∈ tbl := tbl_of (List.mem_of_getElem? (i := 336) (by decide +kernel)) (by decide +kernel)
theorem kw_291 : (Jvm.Cond.code ({ cls := "CoastLamps$Flare", name := "burn", desc := "(I)I" } : Jvm.MethodName) prog_5_method_3_code (2 : Nat) (Option.some Jvm.ClassFile.FieldType.int)) ∈ tbl := tbl_of (List.mem_of_getElem? (i := 337) (by decide +kernel)) (by decide +kernel)
theorem kw_292 : (Jvm.Cond.methodLink "CoastLamps$Flare" (15 : Nat) ({ cls := "CoastLamps$Coast", name := "begins", desc := "(II)V" } : Jvm.MethodName)) ∈ tbl := tbl_of (List.mem_of_getElem? (i := 338) (by decide +kernel)) (by decide +kernel)
theorem kw_293 : (Jvm.Cond.instanceMethod ({ cls := "CoastLamps$Coast", name := "begins", desc := "(II)V" } : Jvm.MethodName)) ∈ tbl := tbl_of (List.mem_of_getElem? (i := 339) (by decide +kernel)) (by decide +kernel)
theorem kw_294 : (Jvm.Cond.selects "CoastLamps$Coast" ({ cls := "CoastLamps$Coast", name := "begins", desc := "(II)V" } : Jvm.MethodName) ({ cls := "CoastLamps$Coast", name := "begins", desc := "(II)V" } : Jvm.MethodName)) ∈ tbl := tbl_of (List.mem_of_getElem? (i := 340) (by decide +kernel)) (by decide +kernel)
theorem kw_295 : (Jvm.Cond.code ({ cls := "CoastLamps$Coast", name := "begins", desc := "(II)V" } : Jvm.MethodName) prog_3_method_6_code (3 : Nat) (Option.none : Option Jvm.ClassFile.FieldType)) ∈ tbl := tbl_of (List.mem_of_getElem? (i := 341) (by decide +kernel)) (by decide +kernel)
theorem kw_296 : (Jvm.Cond.methodLink "CoastLamps$Flare" (21 : Nat) ({ cls := "CoastLamps$Gas", name := "burn", desc := "(I)I" } : Jvm.MethodName)) ∈ tbl := tbl_of (List.mem_of_getElem? (i := 342) (by decide +kernel)) (by decide +kernel)
theorem kw_297 : (Jvm.Cond.sameMethod "CoastLamps$Gas" "CoastLamps$Lamp" "burn" "(I)I") ∈ tbl := tbl_of (List.mem_of_getElem? (i := 343) (by decide +kernel)) (by decide +kernel)
theorem kw_299 : (Jvm.Cond.selects "CoastLamps$Drum" ({ cls := "CoastLamps$Lamp", name := "burn", desc := "(I)I" } : Jvm.MethodName) ({ cls := "CoastLamps$Twin", name := "burn", desc := "(I)I" } : Jvm.MethodName)) ∈ tbl := tbl_of (List.mem_of_getElem? (i := 345) (by decide +kernel)) (by decide +kernel)
theorem kw_300 : (Jvm.Cond.instanceMethod ({ cls := "CoastLamps$Twin", name := "burn", desc := "(I)I" } : Jvm.MethodName)) ∈ tbl := tbl_of (List.mem_of_getElem? (i := 346) (by decide +kernel)) (by decide +kernel)
theorem kw_301 : (Jvm.Cond.code ({ cls := "CoastLamps$Twin", name := "burn", desc := "(I)I" } : Jvm.MethodName) prog_12_method_3_code (3 : Nat) (Option.some Jvm.ClassFile.FieldType.int)) ∈ tbl := tbl_of (List.mem_of_getElem? (i := 347) (by decide +kernel)) (by decide +kernel)
theorem kw_302 : (Jvm.Cond.methodLink "CoastLamps$Twin" (15 : Nat) ({ cls := "CoastLamps$Coast", name := "begins", desc := "(II)V" } : Jvm.MethodName)) ∈ tbl := tbl_of (List.mem_of_getElem? (i := 348) (by decide +kernel)) (by decide +kernel)
theorem kw_303 : (Jvm.Cond.methodLink "CoastLamps$Twin" (21 : Nat) ({ cls := "CoastLamps$Round", name := "burn", desc := "(I)I" } : Jvm.MethodName)) ∈ tbl := tbl_of (List.mem_of_getElem? (i := 349) (by decide +kernel)) (by decide +kernel)
theorem kw_304 : (Jvm.Cond.sameMethod "CoastLamps$Round" "CoastLamps$Oil" "burn" "(I)I") ∈ tbl := tbl_of (List.mem_of_getElem? (i := 350) (by decide +kernel)) (by decide +kernel)
theorem kw_306 : (Jvm.Cond.instanceMethod ({ cls := "CoastLamps$Oil", name := "burn", desc := "(I)I" } : Jvm.MethodName)) ∈ tbl := tbl_of (List.mem_of_getElem? (i := 352) (by decide +kernel)) (by decide +kernel)
theorem kw_307 : (Jvm.Cond.code ({ cls := "CoastLamps$Oil", name := "burn", desc := "(I)I" } : Jvm.MethodName) prog_8_method_2_code (3 : Nat) (Option.some Jvm.ClassFile.FieldType.int)) ∈ tbl := tbl_of (List.mem_of_getElem? (i := 353) (by decide +kernel)) (by decide +kernel)
theorem kw_308 : (Jvm.Cond.methodLink "CoastLamps$Oil" (15 : Nat) ({ cls := "CoastLamps$Coast", name := "begins", desc := "(II)V" } : Jvm.MethodName)) ∈ tbl := tbl_of (List.mem_of_getElem? (i := 354) (by decide +kernel)) (by decide +kernel)
theorem kw_309 : (Jvm.Cond.methodLink "CoastLamps$Oil" (21 : Nat) ({ cls := "CoastLamps$Lamp", name := "burn", desc := "(I)I" } : Jvm.MethodName)) ∈ tbl := tbl_of (List.mem_of_getElem? (i := 355) (by decide +kernel)) (by decide +kernel)
theorem kw_310 : (Jvm.Cond.selects "CoastLamps$Flare" ({ cls := "CoastLamps$Lamp", name := "burn", desc := "(I)I" } : Jvm.MethodName) ({ cls := "CoastLamps$Flare", name := "burn", desc := "(I)I" } : Jvm.MethodName)) ∈ tbl := tbl_of (List.mem_of_getElem? (i := 356) (by decide +kernel)) (by decide +kernel)
theorem kw_311 : (Jvm.Cond.selects "CoastLamps$Gas" ({ cls := "CoastLamps$Lamp", name := "burn", desc := "(I)I" } : Jvm.MethodName) ({ cls := "CoastLamps$Lamp", name := "burn", desc := "(I)I" } : Jvm.MethodName)) ∈ tbl := tbl_of (List.mem_of_getElem? (i := 357) (by decide +kernel)) (by decide +kernel)
theorem kw_312 : (Jvm.Cond.selects "CoastLamps$Oil" ({ cls := "CoastLamps$Lamp", name := "burn", desc := "(I)I" } : Jvm.MethodName) ({ cls := "CoastLamps$Oil", name := "burn", desc := "(I)I" } : Jvm.MethodName)) ∈ tbl := tbl_of (List.mem_of_getElem? (i := 358) (by decide +kernel)) (by decide +kernel)
theorem kw_313 : (Jvm.Cond.selects "CoastLamps$Outer" ({ cls := "CoastLamps$Lamp", name := "burn", desc := "(I)I" } : Jvm.MethodName) ({ cls := "CoastLamps$Outer", name := "burn", desc := "(I)I" } : Jvm.MethodName)) ∈ tbl := tbl_of (List.mem_of_getElem? (i := 359) (by decide +kernel)) (by decide +kernel)
theorem kw_314 : (Jvm.Cond.instanceMethod ({ cls := "CoastLamps$Outer", name := "burn", desc := "(I)I" } : Jvm.MethodName)) ∈ tbl := tbl_of (List.mem_of_getElem? (i := 360) (by decide +kernel)) (by decide +kernel)
theorem kw_315 : (Jvm.Cond.code ({ cls := "CoastLamps$Outer", name := "burn", desc := "(I)I" } : Jvm.MethodName) prog_9_method_2_code (2 : Nat) (Option.some Jvm.ClassFile.FieldType.int)) ∈ tbl := tbl_of (List.mem_of_getElem? (i := 361) (by decide +kernel)) (by decide +kernel)
theorem kw_316 : (Jvm.Cond.methodLink "CoastLamps$Outer" (15 : Nat) ({ cls := "CoastLamps$Coast", name := "begins", desc := "(II)V" } : Jvm.MethodName)) ∈ tbl := tbl_of (List.mem_of_getElem? (i := 362) (by decide +kernel)) (by decide +kernel)
theorem kw_317 : (Jvm.Cond.methodLink "CoastLamps$Outer" (21 : Nat) ({ cls := "CoastLamps$Buoy", name := "burn", desc := "(I)I" } : Jvm.MethodName)) ∈ tbl := tbl_of (List.mem_of_getElem? (i := 363) (by decide +kernel)) (by decide +kernel)
theorem kw_318 : (Jvm.Cond.sameMethod "CoastLamps$Buoy" "CoastLamps$Flare" "burn" "(I)I") ∈ tbl := tbl_of (List.mem_of_getElem? (i := 364) (by decide +kernel)) (by decide +kernel)
theorem kw_320 : (Jvm.Cond.methodLink "CoastLamps$Outer" (25 : Nat) ({ cls := "CoastLamps$Coast", name := "dialed", desc := "(I)I" } : Jvm.MethodName)) ∈ tbl := tbl_of (List.mem_of_getElem? (i := 366) (by decide +kernel)) (by decide +kernel)
theorem kw_321 : (Jvm.Cond.methodLink "CoastLamps$Outer" (28 : Nat) ({ cls := "java/lang/Math", name := "max", desc := "(II)I" } : Jvm.MethodName)) ∈ tbl := tbl_of (List.mem_of_getElem? (i := 367) (by decide +kernel)) (by decide +kernel)
theorem kw_322 : (Jvm.Cond.static ({ cls := "java/lang/Math", name := "max", desc := "(II)I" } : Jvm.MethodName)) ∈ tbl := tbl_of (List.mem_of_getElem? (i := 368) (by decide +kernel)) (by decide +kernel)
theorem kw_323 : (Jvm.Cond.code ({ cls := "java/lang/Math", name := "max", desc := "(II)I" } : Jvm.MethodName) prog_15_method_65_code (2 : Nat) (Option.some Jvm.ClassFile.FieldType.int)) ∈ tbl := tbl_of (List.mem_of_getElem? (i := 369) (by decide +kernel)) (by decide +kernel)
theorem kw_324 : (Jvm.Cond.selects "CoastLamps$Round" ({ cls := "CoastLamps$Lamp", name := "burn", desc := "(I)I" } : Jvm.MethodName) ({ cls := "CoastLamps$Oil", name := "burn", desc := "(I)I" } : Jvm.MethodName)) ∈ tbl := tbl_of (List.mem_of_getElem? (i := 370) (by decide +kernel)) (by decide +kernel)
theorem kw_325 : (Jvm.Cond.selects "CoastLamps$Swing" ({ cls := "CoastLamps$Lamp", name := "burn", desc := "(I)I" } : Jvm.MethodName) ({ cls := "CoastLamps$Swing", name := "burn", desc := "(I)I" } : Jvm.MethodName)) ∈ tbl := tbl_of (List.mem_of_getElem? (i := 371) (by decide +kernel)) (by decide +kernel)
theorem kw_326 : (Jvm.Cond.instanceMethod ({ cls := "CoastLamps$Swing", name := "burn", desc := "(I)I" } : Jvm.MethodName)) ∈ tbl := tbl_of (List.mem_of_getElem? (i := 372) (by decide +kernel)) (by decide +kernel)
theorem kw_327 : (Jvm.Cond.code ({ cls := "CoastLamps$Swing", name := "burn", desc := "(I)I" } : Jvm.MethodName) prog_11_method_2_code (2 : Nat) (Option.some Jvm.ClassFile.FieldType.int)) ∈ tbl := tbl_of (List.mem_of_getElem? (i := 373) (by decide +kernel)) (by decide +kernel)
theorem kw_328 : (Jvm.Cond.methodLink "CoastLamps$Swing" (15 : Nat) ({ cls := "CoastLamps$Coast", name := "begins", desc := "(II)V" } : Jvm.MethodName)) ∈ tbl := tbl_of (List.mem_of_getElem? (i := 374) (by decide +kernel)) (by decide +kernel)
theorem kw_329 : (Jvm.Cond.methodLink "CoastLamps$Swing" (21 : Nat) ({ cls := "CoastLamps$Drum", name := "burn", desc := "(I)I" } : Jvm.MethodName)) ∈ tbl := tbl_of (List.mem_of_getElem? (i := 375) (by decide +kernel)) (by decide +kernel)
theorem kw_330 : (Jvm.Cond.sameMethod "CoastLamps$Drum" "CoastLamps$Twin" "burn" "(I)I") ∈ tbl := tbl_of (List.mem_of_getElem? (i := 376) (by decide +kernel)) (by decide +kernel)
theorem kw_332 : (Jvm.Cond.selects "CoastLamps$Twin" ({ cls := "CoastLamps$Lamp", name := "burn", desc := "(I)I" } : Jvm.MethodName) ({ cls := "CoastLamps$Twin", name := "burn", desc := "(I)I" } : Jvm.MethodName)) ∈ tbl := tbl_of (List.mem_of_getElem? (i := 378) (by decide +kernel)) (by decide +kernel)
theorem kw_333 : (Jvm.Cond.code ({ cls := "CoastLamps$Lamp", name := "burn", desc := "(I)I" } : Jvm.MethodName) prog_7_method_4_code (2 : Nat) (Option.some Jvm.ClassFile.FieldType.int)) ∈ tbl := tbl_of (List.mem_of_getElem? (i := 379) (by decide +kernel)) (by decide +kernel)
theorem kw_334 : (Jvm.Cond.methodLink "CoastLamps$Lamp" (29 : Nat) ({ cls := "CoastLamps$Coast", name := "begins", desc := "(II)V" } : Jvm.MethodName)) ∈ tbl := tbl_of (List.mem_of_getElem? (i := 380) (by decide +kernel)) (by decide +kernel)
theorem kw_335 : (Jvm.Cond.methodLink "CoastLamps$Lamp" (38 : Nat) ({ cls := "CoastLamps$Coast", name := "dialed", desc := "(I)I" } : Jvm.MethodName)) ∈ tbl := tbl_of (List.mem_of_getElem? (i := 381) (by decide +kernel)) (by decide +kernel)
theorem kw_336 : (Jvm.Cond.methodLink "CoastLamps" (60 : Nat) ({ cls := "CoastLamps$Lamp", name := "reach", desc := "(I)I" } : Jvm.MethodName)) ∈ tbl := tbl_of (List.mem_of_getElem? (i := 382) (by decide +kernel)) (by decide +kernel)
theorem kw_337 : (Jvm.Cond.instanceMethod ({ cls := "CoastLamps$Lamp", name := "reach", desc := "(I)I" } : Jvm.MethodName)) ∈ tbl := tbl_of (List.mem_of_getElem? (i := 383) (by decide +kernel)) (by decide +kernel)
theorem kw_338 : (Jvm.Cond.sameMethod "CoastLamps$Lamp" "CoastLamps$Lamp" "reach" "(I)I") ∈ tbl := tbl_of (List.mem_of_getElem? (i := 384) (by decide +kernel)) (by decide +kernel)
theorem kw_339 : (Jvm.Cond.selects "CoastLamps$Buoy" ({ cls := "CoastLamps$Lamp", name := "reach", desc := "(I)I" } : Jvm.MethodName) ({ cls := "CoastLamps$Buoy", name := "reach", desc := "(I)I" } : Jvm.MethodName)) ∈ tbl := tbl_of (List.mem_of_getElem? (i := 385) (by decide +kernel)) (by decide +kernel)
theorem kw_340 : (Jvm.Cond.instanceMethod ({ cls := "CoastLamps$Buoy", name := "reach", desc := "(I)I" } : Jvm.MethodName)) ∈ tbl := tbl_of (List.mem_of_getElem? (i := 386) (by decide +kernel)) (by decide +kernel)
theorem kw_341 : (Jvm.Cond.code ({ cls := "CoastLamps$Buoy", name := "reach", desc := "(I)I" } : Jvm.MethodName) prog_2_method_2_code (2 : Nat) (Option.some Jvm.ClassFile.FieldType.int)) ∈ tbl := tbl_of (List.mem_of_getElem? (i := 387) (by decide +kernel)) (by decide +kernel)
theorem kw_342 : (Jvm.Cond.methodLink "CoastLamps$Buoy" (15 : Nat) ({ cls := "CoastLamps$Coast", name := "begins", desc := "(II)V" } : Jvm.MethodName)) ∈ tbl := tbl_of (List.mem_of_getElem? (i := 388) (by decide +kernel)) (by decide +kernel)
theorem kw_343 : (Jvm.Cond.methodLink "CoastLamps$Buoy" (21 : Nat) ({ cls := "CoastLamps$Flare", name := "reach", desc := "(I)I" } : Jvm.MethodName)) ∈ tbl := tbl_of (List.mem_of_getElem? (i := 389) (by decide +kernel)) (by decide +kernel)
theorem kw_344 : (Jvm.Cond.sameMethod "CoastLamps$Flare" "CoastLamps$Gas" "reach" "(I)I") ∈ tbl := tbl_of (List.mem_of_getElem? (i := 390) (by decide +kernel)) (by decide +kernel)
theorem kw_346 : (Jvm.Cond.instanceMethod ({ cls := "CoastLamps$Gas", name := "reach", desc := "(I)I" } : Jvm.MethodName)) ∈ tbl := tbl_of (List.mem_of_getElem? (i := 392) (by decide +kernel)) (by decide +kernel)
theorem kw_347 : (Jvm.Cond.code ({ cls := "CoastLamps$Gas", name := "reach", desc := "(I)I" } : Jvm.MethodName) prog_6_method_2_code (2 : Nat) (Option.some Jvm.ClassFile.FieldType.int)) ∈ tbl := tbl_of (List.mem_of_getElem? (i := 393) (by decide +kernel)) (by decide +kernel)
theorem kw_348 : (Jvm.Cond.methodLink "CoastLamps$Gas" (15 : Nat) ({ cls := "CoastLamps$Coast", name := "begins", desc := "(II)V" } : Jvm.MethodName)) ∈ tbl := tbl_of (List.mem_of_getElem? (i := 394) (by decide +kernel)) (by decide +kernel)
theorem kw_349 : (Jvm.Cond.methodLink "CoastLamps$Gas" (21 : Nat) ({ cls := "CoastLamps$Lamp", name := "reach", desc := "(I)I" } : Jvm.MethodName)) ∈ tbl := tbl_of (List.mem_of_getElem? (i := 395) (by decide +kernel)) (by decide +kernel)
theorem kw_350 : (Jvm.Cond.selects "CoastLamps$Drum" ({ cls := "CoastLamps$Lamp", name := "reach", desc := "(I)I" } : Jvm.MethodName) ({ cls := "CoastLamps$Drum", name := "reach", desc := "(I)I" } : Jvm.MethodName)) ∈ tbl := tbl_of (List.mem_of_getElem? (i := 396) (by decide +kernel)) (by decide +kernel)
theorem kw_351 : (Jvm.Cond.instanceMethod ({ cls := "CoastLamps$Drum", name := "reach", desc := "(I)I" } : Jvm.MethodName)) ∈ tbl := tbl_of (List.mem_of_getElem? (i := 397) (by decide +kernel)) (by decide +kernel)
theorem kw_352 : (Jvm.Cond.code ({ cls := "CoastLamps$Drum", name := "reach", desc := "(I)I" } : Jvm.MethodName) prog_4_method_2_code (2 : Nat) (Option.some Jvm.ClassFile.FieldType.int)) ∈ tbl := tbl_of (List.mem_of_getElem? (i := 398) (by decide +kernel)) (by decide +kernel)
theorem kw_353 : (Jvm.Cond.methodLink "CoastLamps$Drum" (15 : Nat) ({ cls := "CoastLamps$Coast", name := "begins", desc := "(II)V" } : Jvm.MethodName)) ∈ tbl := tbl_of (List.mem_of_getElem? (i := 399) (by decide +kernel)) (by decide +kernel)
theorem kw_354 : (Jvm.Cond.methodLink "CoastLamps$Drum" (21 : Nat) ({ cls := "CoastLamps$Twin", name := "reach", desc := "(I)I" } : Jvm.MethodName)) ∈ tbl := tbl_of (List.mem_of_getElem? (i := 400) (by decide +kernel)) (by decide +kernel)
theorem kw_355 : (Jvm.Cond.instanceMethod ({ cls := "CoastLamps$Twin", name := "reach", desc := "(I)I" } : Jvm.MethodName)) ∈ tbl := tbl_of (List.mem_of_getElem? (i := 401) (by decide +kernel)) (by decide +kernel)
theorem kw_356 : (Jvm.Cond.code ({ cls := "CoastLamps$Twin", name := "reach", desc := "(I)I" } : Jvm.MethodName) prog_12_method_4_code (3 : Nat) (Option.some Jvm.ClassFile.FieldType.int)) ∈ tbl := tbl_of (List.mem_of_getElem? (i := 402) (by decide +kernel)) (by decide +kernel)
theorem kw_357 : (Jvm.Cond.methodLink "CoastLamps$Twin" (25 : Nat) ({ cls := "CoastLamps$Round", name := "reach", desc := "(I)I" } : Jvm.MethodName)) ∈ tbl := tbl_of (List.mem_of_getElem? (i := 403) (by decide +kernel)) (by decide +kernel)
theorem kw_358 : (Jvm.Cond.instanceMethod ({ cls := "CoastLamps$Round", name := "reach", desc := "(I)I" } : Jvm.MethodName)) ∈ tbl := tbl_of (List.mem_of_getElem? (i := 404) (by decide +kernel)) (by decide +kernel)
theorem kw_359 : (Jvm.Cond.code ({ cls := "CoastLamps$Round", name := "reach", desc := "(I)I" } : Jvm.MethodName) prog_10_method_2_code (2 : Nat) (Option.some Jvm.ClassFile.FieldType.int)) ∈ tbl := tbl_of (List.mem_of_getElem? (i := 405) (by decide +kernel)) (by decide +kernel)
theorem kw_360 : (Jvm.Cond.methodLink "CoastLamps$Round" (15 : Nat) ({ cls := "CoastLamps$Coast", name := "begins", desc := "(II)V" } : Jvm.MethodName)) ∈ tbl := tbl_of (List.mem_of_getElem? (i := 406) (by decide +kernel)) (by decide +kernel)
theorem kw_361 : (Jvm.Cond.methodLink "CoastLamps$Round" (21 : Nat) ({ cls := "CoastLamps$Oil", name := "reach", desc := "(I)I" } : Jvm.MethodName)) ∈ tbl := tbl_of (List.mem_of_getElem? (i := 407) (by decide +kernel)) (by decide +kernel)
theorem kw_362 : (Jvm.Cond.sameMethod "CoastLamps$Oil" "CoastLamps$Lamp" "reach" "(I)I") ∈ tbl := tbl_of (List.mem_of_getElem? (i := 408) (by decide +kernel)) (by decide +kernel)
theorem kw_364 : (Jvm.Cond.methodLink "CoastLamps$Round" (25 : Nat) ({ cls := "CoastLamps$Coast", name := "dialed", desc := "(I)I" } : Jvm.MethodName)) ∈ tbl := tbl_of (List.mem_of_getElem? (i := 410) (by decide +kernel)) (by decide +kernel)
theorem kw_365 : (Jvm.Cond.methodLink "CoastLamps$Drum" (25 : Nat) ({ cls := "java/lang/Math", name := "max", desc := "(II)I" } : Jvm.MethodName)) ∈ tbl := tbl_of (List.mem_of_getElem? (i := 411) (by decide +kernel)) (by decide +kernel)
theorem kw_366 : (Jvm.Cond.selects "CoastLamps$Flare" ({ cls := "CoastLamps$Lamp", name := "reach", desc := "(I)I" } : Jvm.MethodName) ({ cls := "CoastLamps$Gas", name := "reach", desc := "(I)I" } : Jvm.MethodName)) ∈ tbl := tbl_of (List.mem_of_getElem? (i := 412) (by decide +kernel)) (by decide +kernel)
theorem kw_367 : (Jvm.Cond.selects "CoastLamps$Gas" ({ cls := "CoastLamps$Lamp", name := "reach", desc := "(I)I" } : Jvm.MethodName) ({ cls := "CoastLamps$Gas", name := "reach", desc := "(I)I" } : Jvm.MethodName)) ∈ tbl := tbl_of (List.mem_of_getElem? (i := 413) (by decide +kernel)) (by decide +kernel)
theorem kw_368 : (Jvm.Cond.selects "CoastLamps$Oil" ({ cls := "CoastLamps$Lamp", name := "reach", desc := "(I)I" } : Jvm.MethodName) ({ cls := "CoastLamps$Lamp", name := "reach", desc := "(I)I" } : Jvm.MethodName)) ∈ tbl := tbl_of (List.mem_of_getElem? (i := 414) (by decide +kernel)) (by decide +kernel)
theorem kw_369 : (Jvm.Cond.selects "CoastLamps$Outer" ({ cls := "CoastLamps$Lamp", name := "reach", desc := "(I)I" } : Jvm.MethodName) ({ cls := "CoastLamps$Buoy", name := "reach", desc := "(I)I" } : Jvm.MethodName)) ∈ tbl := tbl_of (List.mem_of_getElem? (i := 415) (by decide +kernel)) (by decide +kernel)
theorem kw_370 : (Jvm.Cond.selects "CoastLamps$Round" ({ cls := "CoastLamps$Lamp", name := "reach", desc := "(I)I" } : Jvm.MethodName) ({ cls := "CoastLamps$Round", name := "reach", desc := "(I)I" } : Jvm.MethodName)) ∈ tbl := tbl_of (List.mem_of_getElem? (i := 416) (by decide +kernel)) (by decide +kernel)
theorem kw_371 : (Jvm.Cond.selects "CoastLamps$Swing" ({ cls := "CoastLamps$Lamp", name := "reach", desc := "(I)I" } : Jvm.MethodName) ({ cls := "CoastLamps$Drum", name := "reach", desc := "(I)I" } : Jvm.MethodName)) ∈ tbl := tbl_of (List.mem_of_getElem? (i := 417) (by decide +kernel)) (by decide +kernel)
theorem kw_372 : (Jvm.Cond.selects "CoastLamps$Twin" ({ cls := "CoastLamps$Lamp", name := "reach", desc := "(I)I" } : Jvm.MethodName) ({ cls := "CoastLamps$Twin", name := "reach", desc := "(I)I" } : Jvm.MethodName)) ∈ tbl := tbl_of (List.mem_of_getElem? (i := 418) (by decide +kernel)) (by decide +kernel)
theorem kw_373 : (Jvm.Cond.code ({ cls := "CoastLamps$Lamp", name := "reach", desc := "(I)I" } : Jvm.MethodName) prog_7_method_5_code (2 : Nat) (Option.some Jvm.ClassFile.FieldType.int)) ∈ tbl := tbl_of (List.mem_of_getElem? (i := 419) (by decide +kernel)) (by decide +kernel)
theorem kw_374 : (Jvm.Cond.methodLink "CoastLamps" (63 : Nat) ({ cls := "CoastLamps$Lamp", name := "flash", desc := "(I)I" } : Jvm.MethodName)) ∈ tbl := tbl_of (List.mem_of_getElem? (i := 420) (by decide +kernel)) (by decide +kernel)
theorem kw_375 : (Jvm.Cond.instanceMethod ({ cls := "CoastLamps$Lamp", name := "flash", desc := "(I)I" } : Jvm.MethodName)) ∈ tbl := tbl_of (List.mem_of_getElem? (i := 421) (by decide +kernel)) (by decide +kernel)
theorem kw_376 : (Jvm.Cond.sameMethod "CoastLamps$Lamp" "CoastLamps$Lamp" "flash" "(I)I") ∈ tbl := tbl_of (List.mem_of_getElem? (i := 422) (by decide +kernel)) (by decide +kernel)
theorem kw_377 : (Jvm.Cond.selects "CoastLamps$Buoy" ({ cls := "CoastLamps$Lamp", name := "flash", desc := "(I)I" } : Jvm.MethodName) ({ cls := "CoastLamps$Flare", name := "flash", desc := "(I)I" } : Jvm.MethodName)) ∈ tbl := tbl_of (List.mem_of_getElem? (i := 423) (by decide +kernel)) (by decide +kernel)
theorem kw_378 : (Jvm.Cond.instanceMethod ({ cls := "CoastLamps$Flare", name := "flash", desc := "(I)I" } : Jvm.MethodName)) ∈ tbl := tbl_of (List.mem_of_getElem? (i := 424) (by decide +kernel)) (by decide +kernel)
theorem kw_379 : (Jvm.Cond.code ({ cls := "CoastLamps$Flare", name := "flash", desc := "(I)I" } : Jvm.MethodName) prog_5_method_4_code (2 : Nat) (Option.some Jvm.ClassFile.FieldType.int)) ∈ tbl := tbl_of (List.mem_of_getElem? (i := 425) (by decide +kernel)) (by decide +kernel)
theorem kw_380 : (Jvm.Cond.methodLink "CoastLamps$Flare" (25 : Nat) ({ cls := "CoastLamps$Gas", name := "flash", desc := "(I)I" } : Jvm.MethodName)) ∈ tbl := tbl_of (List.mem_of_getElem? (i := 426) (by decide +kernel)) (by decide +kernel)
theorem kw_381 : (Jvm.Cond.sameMethod "CoastLamps$Gas" "CoastLamps$Lamp" "flash" "(I)I") ∈ tbl := tbl_of (List.mem_of_getElem? (i := 427) (by decide +kernel)) (by decide +kernel)
theorem kw_383 : (Jvm.Cond.selects "CoastLamps$Drum" ({ cls := "CoastLamps$Lamp", name := "flash", desc := "(I)I" } : Jvm.MethodName) ({ cls := "CoastLamps$Twin", name := "flash", desc := "(I)I" } : Jvm.MethodName)) ∈ tbl := tbl_of (List.mem_of_getElem? (i := 429) (by decide +kernel)) (by decide +kernel)
theorem kw_384 : (Jvm.Cond.instanceMethod ({ cls := "CoastLamps$Twin", name := "flash", desc := "(I)I" } : Jvm.MethodName)) ∈ tbl := tbl_of (List.mem_of_getElem? (i := 430) (by decide +kernel)) (by decide +kernel)
theorem kw_385 : (Jvm.Cond.code ({ cls := "CoastLamps$Twin", name := "flash", desc := "(I)I" } : Jvm.MethodName) prog_12_method_5_code (2 : Nat) (Option.some Jvm.ClassFile.FieldType.int)) ∈ tbl := tbl_of (List.mem_of_getElem? (i := 431) (by decide +kernel)) (by decide +kernel)
theorem kw_386 : (Jvm.Cond.methodLink "CoastLamps$Twin" (28 : Nat) ({ cls := "CoastLamps$Round", name := "flash", desc := "(I)I" } : Jvm.MethodName)) ∈ tbl := tbl_of (List.mem_of_getElem? (i := 432) (by decide +kernel)) (by decide +kernel)
theorem kw_387 : (Jvm.Cond.sameMethod "CoastLamps$Round" "CoastLamps$Lamp" "flash" "(I)I") ∈ tbl := tbl_of (List.mem_of_getElem? (i := 433) (by decide +kernel)) (by decide +kernel)
theorem kw_388 : (Jvm.Cond.selects "CoastLamps$Flare" ({ cls := "CoastLamps$Lamp", name := "flash", desc := "(I)I" } : Jvm.MethodName) ({ cls := "CoastLamps$Flare", name := "flash", desc := "(I)I" } : Jvm.MethodName)) ∈ tbl := tbl_of (List.mem_of_getElem? (i := 434) (by decide +kernel)) (by decide +kernel)
theorem kw_389 : (Jvm.Cond.selects "CoastLamps$Gas" ({ cls := "CoastLamps$Lamp", name := "flash", desc := "(I)I" } : Jvm.MethodName) ({ cls := "CoastLamps$Lamp", name := "flash", desc := "(I)I" } : Jvm.MethodName)) ∈ tbl := tbl_of (List.mem_of_getElem? (i := 435) (by decide +kernel)) (by decide +kernel)
theorem kw_390 : (Jvm.Cond.selects "CoastLamps$Oil" ({ cls := "CoastLamps$Lamp", name := "flash", desc := "(I)I" } : Jvm.MethodName) ({ cls := "CoastLamps$Lamp", name := "flash", desc := "(I)I" } : Jvm.MethodName)) ∈ tbl := tbl_of (List.mem_of_getElem? (i := 436) (by decide +kernel)) (by decide +kernel)
theorem kw_391 : (Jvm.Cond.selects "CoastLamps$Outer" ({ cls := "CoastLamps$Lamp", name := "flash", desc := "(I)I" } : Jvm.MethodName) ({ cls := "CoastLamps$Outer", name := "flash", desc := "(I)I" } : Jvm.MethodName)) ∈ tbl := tbl_of (List.mem_of_getElem? (i := 437) (by decide +kernel)) (by decide +kernel)
theorem kw_392 : (Jvm.Cond.instanceMethod ({ cls := "CoastLamps$Outer", name := "flash", desc := "(I)I" } : Jvm.MethodName)) ∈ tbl := tbl_of (List.mem_of_getElem? (i := 438) (by decide +kernel)) (by decide +kernel)
theorem kw_393 : (Jvm.Cond.code ({ cls := "CoastLamps$Outer", name := "flash", desc := "(I)I" } : Jvm.MethodName) prog_9_method_3_code (3 : Nat) (Option.some Jvm.ClassFile.FieldType.int)) ∈ tbl := tbl_of (List.mem_of_getElem? (i := 439) (by decide +kernel)) (by decide +kernel)
theorem kw_394 : (Jvm.Cond.methodLink "CoastLamps$Outer" (34 : Nat) ({ cls := "CoastLamps$Buoy", name := "flash", desc := "(I)I" } : Jvm.MethodName)) ∈ tbl := tbl_of (List.mem_of_getElem? (i := 440) (by decide +kernel)) (by decide +kernel)
theorem kw_395 : (Jvm.Cond.sameMethod "CoastLamps$Buoy" "CoastLamps$Flare" "flash" "(I)I") ∈ tbl := tbl_of (List.mem_of_getElem? (i := 441) (by decide +kernel)) (by decide +kernel)
theorem kw_397 : (Jvm.Cond.selects "CoastLamps$Round" ({ cls := "CoastLamps$Lamp", name := "flash", desc := "(I)I" } : Jvm.MethodName) ({ cls := "CoastLamps$Lamp", name := "flash", desc := "(I)I" } : Jvm.MethodName)) ∈ tbl := tbl_of (List.mem_of_getElem? (i := 443) (by decide +kernel)) (by decide +kernel)
theorem kw_398 : (Jvm.Cond.selects "CoastLamps$Swing" ({ cls := "CoastLamps$Lamp", name := "flash", desc := "(I)I" } : Jvm.MethodName) ({ cls := "CoastLamps$Swing", name := "flash", desc := "(I)I" } : Jvm.MethodName)) ∈ tbl := tbl_of (List.mem_of_getElem? (i := 444) (by decide +kernel)) (by decide +kernel)
theorem kw_399 : (Jvm.Cond.instanceMethod ({ cls := "CoastLamps$Swing", name := "flash", desc := "(I)I" } : Jvm.MethodName)) ∈ tbl := tbl_of (List.mem_of_getElem? (i := 445) (by decide +kernel)) (by decide +kernel)
theorem kw_400 : (Jvm.Cond.code ({ cls := "CoastLamps$Swing", name := "flash", desc := "(I)I" } : Jvm.MethodName) prog_11_method_3_code (2 : Nat) (Option.some Jvm.ClassFile.FieldType.int)) ∈ tbl := tbl_of (List.mem_of_getElem? (i := 446) (by decide +kernel)) (by decide +kernel)
theorem kw_401 : (Jvm.Cond.methodLink "CoastLamps$Swing" (25 : Nat) ({ cls := "CoastLamps$Drum", name := "flash", desc := "(I)I" } : Jvm.MethodName)) ∈ tbl := tbl_of (List.mem_of_getElem? (i := 447) (by decide +kernel)) (by decide +kernel)
theorem kw_402 : (Jvm.Cond.sameMethod "CoastLamps$Drum" "CoastLamps$Twin" "flash" "(I)I") ∈ tbl := tbl_of (List.mem_of_getElem? (i := 448) (by decide +kernel)) (by decide +kernel)
theorem kw_404 : (Jvm.Cond.selects "CoastLamps$Twin" ({ cls := "CoastLamps$Lamp", name := "flash", desc := "(I)I" } : Jvm.MethodName) ({ cls := "CoastLamps$Twin", name := "flash", desc := "(I)I" } : Jvm.MethodName)) ∈ tbl := tbl_of (List.mem_of_getElem? (i := 450) (by decide +kernel)) (by decide +kernel)
theorem kw_405 : (Jvm.Cond.code ({ cls := "CoastLamps$Lamp", name := "flash", desc := "(I)I" } : Jvm.MethodName) prog_7_method_6_code (2 : Nat) (Option.some Jvm.ClassFile.FieldType.int)) ∈ tbl := tbl_of (List.mem_of_getElem? (i := 451) (by decide +kernel)) (by decide +kernel)
theorem kw_406 : (Jvm.Cond.methodLink "CoastLamps" (66 : Nat) ({ cls := "CoastLamps$Lamp", name := "tend", desc := "(I)I" } : Jvm.MethodName)) ∈ tbl := tbl_of (List.mem_of_getElem? (i := 452) (by decide +kernel)) (by decide +kernel)
theorem kw_407 : (Jvm.Cond.instanceMethod ({ cls := "CoastLamps$Lamp", name := "tend", desc := "(I)I" } : Jvm.MethodName)) ∈ tbl := tbl_of (List.mem_of_getElem? (i := 453) (by decide +kernel)) (by decide +kernel)
theorem kw_408 : (Jvm.Cond.sameMethod "CoastLamps$Lamp" "CoastLamps$Lamp" "tend" "(I)I") ∈ tbl := tbl_of (List.mem_of_getElem? (i := 454) (by decide +kernel)) (by decide +kernel)
theorem kw_409 : (Jvm.Cond.selects "CoastLamps$Buoy" ({ cls := "CoastLamps$Lamp", name := "tend", desc := "(I)I" } : Jvm.MethodName) ({ cls := "CoastLamps$Buoy", name := "tend", desc := "(I)I" } : Jvm.MethodName)) ∈ tbl := tbl_of (List.mem_of_getElem? (i := 455) (by decide +kernel)) (by decide +kernel)
theorem kw_410 : (Jvm.Cond.instanceMethod ({ cls := "CoastLamps$Buoy", name := "tend", desc := "(I)I" } : Jvm.MethodName)) ∈ tbl := tbl_of (List.mem_of_getElem? (i := 456) (by decide +kernel)) (by decide +kernel)
theorem kw_411 : (Jvm.Cond.code ({ cls := "CoastLamps$Buoy", name := "tend", desc := "(I)I" } : Jvm.MethodName) prog_2_method_3_code (3 : Nat) (Option.some Jvm.ClassFile.FieldType.int)) ∈ tbl := tbl_of (List.mem_of_getElem? (i := 457) (by decide +kernel)) (by decide +kernel)
theorem kw_412 : (Jvm.Cond.methodLink "CoastLamps$Buoy" (25 : Nat) ({ cls := "CoastLamps$Coast", name := "dialed", desc := "(I)I" } : Jvm.MethodName)) ∈ tbl := tbl_of (List.mem_of_getElem? (i := 458) (by decide +kernel)) (by decide +kernel)
theorem kw_413 : (Jvm.Cond.methodLink "CoastLamps$Buoy" (28 : Nat) ({ cls := "CoastLamps$Flare", name := "tend", desc := "(I)I" } : Jvm.MethodName)) ∈ tbl := tbl_of (List.mem_of_getElem? (i := 459) (by decide +kernel)) (by decide +kernel)
theorem kw_414 : (Jvm.Cond.sameMethod "CoastLamps$Flare" "CoastLamps$Lamp" "tend" "(I)I") ∈ tbl := tbl_of (List.mem_of_getElem? (i := 460) (by decide +kernel)) (by decide +kernel)
theorem kw_416 : (Jvm.Cond.selects "CoastLamps$Drum" ({ cls := "CoastLamps$Lamp", name := "tend", desc := "(I)I" } : Jvm.MethodName) ({ cls := "CoastLamps$Drum", name := "tend", desc := "(I)I" } : Jvm.MethodName)) ∈ tbl := tbl_of (List.mem_of_getElem? (i := 462) (by decide +kernel)) (by decide +kernel)
theorem kw_417 : (Jvm.Cond.instanceMethod ({ cls := "CoastLamps$Drum", name := "tend", desc := "(I)I" } : Jvm.MethodName)) ∈ tbl := tbl_of (List.mem_of_getElem? (i := 463) (by decide +kernel)) (by decide +kernel)
theorem kw_418 : (Jvm.Cond.code ({ cls := "CoastLamps$Drum", name := "tend", desc := "(I)I" } : Jvm.MethodName) prog_4_method_3_code (2 : Nat) (Option.some Jvm.ClassFile.FieldType.int)) ∈ tbl := tbl_of (List.mem_of_getElem? (i := 464) (by decide +kernel)) (by decide +kernel)
theorem kw_419 : (Jvm.Cond.methodLink "CoastLamps$Drum" (31 : Nat) ({ cls := "CoastLamps$Coast", name := "dialed", desc := "(I)I" } : Jvm.MethodName)) ∈ tbl := tbl_of (List.mem_of_getElem? (i := 465) (by decide +kernel)) (by decide +kernel)
theorem kw_420 : (Jvm.Cond.methodLink "CoastLamps$Drum" (34 : Nat) ({ cls := "CoastLamps$Twin", name := "tend", desc := "(I)I" } : Jvm.MethodName)) ∈ tbl := tbl_of (List.mem_of_getElem? (i := 466) (by decide +kernel)) (by decide +kernel)
theorem kw_421 : (Jvm.Cond.sameMethod "CoastLamps$Twin" "CoastLamps$Round" "tend" "(I)I") ∈ tbl := tbl_of (List.mem_of_getElem? (i := 467) (by decide +kernel)) (by decide +kernel)
theorem kw_423 : (Jvm.Cond.instanceMethod ({ cls := "CoastLamps$Round", name := "tend", desc := "(I)I" } : Jvm.MethodName)) ∈ tbl := tbl_of (List.mem_of_getElem? (i := 469) (by decide +kernel)) (by decide +kernel)
theorem kw_424 : (Jvm.Cond.code ({ cls := "CoastLamps$Round", name := "tend", desc := "(I)I" } : Jvm.MethodName) prog_10_method_3_code (2 : Nat) (Option.some Jvm.ClassFile.FieldType.int)) ∈ tbl := tbl_of (List.mem_of_getElem? (i := 470) (by decide +kernel)) (by decide +kernel)
theorem kw_425 : (Jvm.Cond.methodLink "CoastLamps$Round" (28 : Nat) ({ cls := "CoastLamps$Oil", name := "tend", desc := "(I)I" } : Jvm.MethodName)) ∈ tbl := tbl_of (List.mem_of_getElem? (i := 471) (by decide +kernel)) (by decide +kernel)
theorem kw_426 : (Jvm.Cond.sameMethod "CoastLamps$Oil" "CoastLamps$Lamp" "tend" "(I)I") ∈ tbl := tbl_of (List.mem_of_getElem? (i := 472) (by decide +kernel)) (by decide +kernel)
theorem kw_427 : (Jvm.Cond.selects "CoastLamps$Flare" ({ cls := "CoastLamps$Lamp", name := "tend", desc := "(I)I" } : Jvm.MethodName) ({ cls := "CoastLamps$Lamp", name := "tend", desc := "(I)I" } : Jvm.MethodName)) ∈ tbl := tbl_of (List.mem_of_getElem? (i := 473) (by decide +kernel)) (by decide +kernel)
theorem kw_428 : (Jvm.Cond.selects "CoastLamps$Gas" ({ cls := "CoastLamps$Lamp", name := "tend", desc := "(I)I" } : Jvm.MethodName) ({ cls := "CoastLamps$Lamp", name := "tend", desc := "(I)I" } : Jvm.MethodName)) ∈ tbl := tbl_of (List.mem_of_getElem? (i := 474) (by decide +kernel)) (by decide +kernel)
theorem kw_429 : (Jvm.Cond.selects "CoastLamps$Oil" ({ cls := "CoastLamps$Lamp", name := "tend", desc := "(I)I" } : Jvm.MethodName) ({ cls := "CoastLamps$Lamp", name := "tend", desc := "(I)I" } : Jvm.MethodName)) ∈ tbl := tbl_of (List.mem_of_getElem? (i := 475) (by decide +kernel)) (by decide +kernel)
theorem kw_430 : (Jvm.Cond.selects "CoastLamps$Outer" ({ cls := "CoastLamps$Lamp", name := "tend", desc := "(I)I" } : Jvm.MethodName) ({ cls := "CoastLamps$Buoy", name := "tend", desc := "(I)I" } : Jvm.MethodName)) ∈ tbl := tbl_of (List.mem_of_getElem? (i := 476) (by decide +kernel)) (by decide +kernel)
theorem kw_431 : (Jvm.Cond.selects "CoastLamps$Round" ({ cls := "CoastLamps$Lamp", name := "tend", desc := "(I)I" } : Jvm.MethodName) ({ cls := "CoastLamps$Round", name := "tend", desc := "(I)I" } : Jvm.MethodName)) ∈ tbl := tbl_of (List.mem_of_getElem? (i := 477) (by decide +kernel)) (by decide +kernel)
theorem kw_432 : (Jvm.Cond.selects "CoastLamps$Swing" ({ cls := "CoastLamps$Lamp", name := "tend", desc := "(I)I" } : Jvm.MethodName) ({ cls := "CoastLamps$Drum", name := "tend", desc := "(I)I" } : Jvm.MethodName)) ∈ tbl := tbl_of (List.mem_of_getElem? (i := 478) (by decide +kernel)) (by decide +kernel)
theorem kw_433 : (Jvm.Cond.selects "CoastLamps$Twin" ({ cls := "CoastLamps$Lamp", name := "tend", desc := "(I)I" } : Jvm.MethodName) ({ cls := "CoastLamps$Round", name := "tend", desc := "(I)I" } : Jvm.MethodName)) ∈ tbl := tbl_of (List.mem_of_getElem? (i := 479) (by decide +kernel)) (by decide +kernel)
theorem kw_434 : (Jvm.Cond.code ({ cls := "CoastLamps$Lamp", name := "tend", desc := "(I)I" } : Jvm.MethodName) prog_7_method_7_code (2 : Nat) (Option.some Jvm.ClassFile.FieldType.int)) ∈ tbl := tbl_of (List.mem_of_getElem? (i := 480) (by decide +kernel)) (by decide +kernel)
theorem kw_435 : (Jvm.Cond.methodLink "CoastLamps$Lamp" (42 : Nat) ({ cls := "java/lang/Math", name := "max", desc := "(II)I" } : Jvm.MethodName)) ∈ tbl := tbl_of (List.mem_of_getElem? (i := 481) (by decide +kernel)) (by decide +kernel)
theorem kw_436 : (Jvm.Cond.methodLink "CoastLamps" (69 : Nat) ({ cls := "CoastLamps$Lamp", name := "rank", desc := "()I" } : Jvm.MethodName)) ∈ tbl := tbl_of (List.mem_of_getElem? (i := 482) (by decide +kernel)) (by decide +kernel)
theorem kw_437 : (Jvm.Cond.instanceMethod ({ cls := "CoastLamps$Lamp", name := "rank", desc := "()I" } : Jvm.MethodName)) ∈ tbl := tbl_of (List.mem_of_getElem? (i := 483) (by decide +kernel)) (by decide +kernel)
theorem kw_438 : (Jvm.Cond.sameMethod "CoastLamps$Lamp" "CoastLamps$Lamp" "rank" "()I") ∈ tbl := tbl_of (List.mem_of_getElem? (i := 484) (by decide +kernel)) (by decide +kernel)
theorem kw_439 : (Jvm.Cond.selects "CoastLamps$Buoy" ({ cls := "CoastLamps$Lamp", name := "rank", desc := "()I" } : Jvm.MethodName) ({ cls := "CoastLamps$Flare", name := "rank", desc := "()I" } : Jvm.MethodName)) ∈ tbl := tbl_of (List.mem_of_getElem? (i := 485) (by decide +kernel)) (by decide +kernel)
theorem kw_440 : (Jvm.Cond.instanceMethod ({ cls := "CoastLamps$Flare", name := "rank", desc := "()I" } : Jvm.MethodName)) ∈ tbl := tbl_of (List.mem_of_getElem? (i := 486) (by decide +kernel)) (by decide +kernel)
theorem kw_441 : (Jvm.Cond.code ({ cls := "CoastLamps$Flare", name := "rank", desc := "()I" } : Jvm.MethodName) prog_5_method_5_code (1 : Nat) (Option.some Jvm.ClassFile.FieldType.int)) ∈ tbl := tbl_of (List.mem_of_getElem? (i := 487) (by decide +kernel)) (by decide +kernel)
theorem kw_442 : (Jvm.Cond.methodLink "CoastLamps$Flare" (28 : Nat) ({ cls := "CoastLamps$Gas", name := "rank", desc := "()I" } : Jvm.MethodName)) ∈ tbl := tbl_of (List.mem_of_getElem? (i := 488) (by decide +kernel)) (by decide +kernel)
theorem kw_443 : (Jvm.Cond.sameMethod "CoastLamps$Gas" "CoastLamps$Lamp" "rank" "()I") ∈ tbl := tbl_of (List.mem_of_getElem? (i := 489) (by decide +kernel)) (by decide +kernel)
theorem kw_445 : (Jvm.Cond.selects "CoastLamps$Drum" ({ cls := "CoastLamps$Lamp", name := "rank", desc := "()I" } : Jvm.MethodName) ({ cls := "CoastLamps$Drum", name := "rank", desc := "()I" } : Jvm.MethodName)) ∈ tbl := tbl_of (List.mem_of_getElem? (i := 491) (by decide +kernel)) (by decide +kernel)
theorem kw_446 : (Jvm.Cond.instanceMethod ({ cls := "CoastLamps$Drum", name := "rank", desc := "()I" } : Jvm.MethodName)) ∈ tbl := tbl_of (List.mem_of_getElem? (i := 492) (by decide +kernel)) (by decide +kernel)
theorem kw_447 : (Jvm.Cond.code ({ cls := "CoastLamps$Drum", name := "rank", desc := "()I" } : Jvm.MethodName) prog_4_method_4_code (1 : Nat) (Option.some Jvm.ClassFile.FieldType.int)) ∈ tbl := tbl_of (List.mem_of_getElem? (i := 493) (by decide +kernel)) (by decide +kernel)
theorem kw_448 : (Jvm.Cond.methodLink "CoastLamps$Drum" (37 : Nat) ({ cls := "CoastLamps$Twin", name := "rank", desc := "()I" } : Jvm.MethodName)) ∈ tbl := tbl_of (List.mem_of_getElem? (i := 494) (by decide +kernel)) (by decide +kernel)
theorem kw_449 : (Jvm.Cond.sameMethod "CoastLamps$Twin" "CoastLamps$Oil" "rank" "()I") ∈ tbl := tbl_of (List.mem_of_getElem? (i := 495) (by decide +kernel)) (by decide +kernel)
theorem kw_451 : (Jvm.Cond.instanceMethod ({ cls := "CoastLamps$Oil", name := "rank", desc := "()I" } : Jvm.MethodName)) ∈ tbl := tbl_of (List.mem_of_getElem? (i := 497) (by decide +kernel)) (by decide +kernel)
theorem kw_452 : (Jvm.Cond.code ({ cls := "CoastLamps$Oil", name := "rank", desc := "()I" } : Jvm.MethodName) prog_8_method_3_code (1 : Nat) (Option.some Jvm.ClassFile.FieldType.int)) ∈ tbl := tbl_of (List.mem_of_getElem? (i := 498) (by decide +kernel)) (by decide +kernel)
theorem kw_453 : (Jvm.Cond.methodLink "CoastLamps$Oil" (29 : Nat) ({ cls := "CoastLamps$Lamp", name := "rank", desc := "()I" } : Jvm.MethodName)) ∈ tbl := tbl_of (List.mem_of_getElem? (i := 499) (by decide +kernel)) (by decide +kernel)
theorem kw_454 : (Jvm.Cond.selects "CoastLamps$Flare" ({ cls := "CoastLamps$Lamp", name := "rank", desc := "()I" } : Jvm.MethodName) ({ cls := "CoastLamps$Flare", name := "rank", desc := "()I" } : Jvm.MethodName)) ∈ tbl := tbl_of (List.mem_of_getElem? (i := 500) (by decide +kernel)) (by decide +kernel)
theorem kw_455 : (Jvm.Cond.selects "CoastLamps$Gas" ({ cls := "CoastLamps$Lamp", name := "rank", desc := "()I" } : Jvm.MethodName) ({ cls := "CoastLamps$Lamp", name := "rank", desc := "()I" } : Jvm.MethodName)) ∈ tbl := tbl_of (List.mem_of_getElem? (i := 501) (by decide +kernel)) (by decide +kernel)
theorem kw_456 : (Jvm.Cond.selects "CoastLamps$Oil" ({ cls := "CoastLamps$Lamp", name := "rank", desc := "()I" } : Jvm.MethodName) ({ cls := "CoastLamps$Oil", name := "rank", desc := "()I" } : Jvm.MethodName)) ∈ tbl := tbl_of (List.mem_of_getElem? (i := 502) (by decide +kernel)) (by decide +kernel)
theorem kw_457 : (Jvm.Cond.selects "CoastLamps$Outer" ({ cls := "CoastLamps$Lamp", name := "rank", desc := "()I" } : Jvm.MethodName) ({ cls := "CoastLamps$Outer", name := "rank", desc := "()I" } : Jvm.MethodName)) ∈ tbl := tbl_of (List.mem_of_getElem? (i := 503) (by decide +kernel)) (by decide +kernel)
theorem kw_458 : (Jvm.Cond.instanceMethod ({ cls := "CoastLamps$Outer", name := "rank", desc := "()I" } : Jvm.MethodName)) ∈ tbl := tbl_of (List.mem_of_getElem? (i := 504) (by decide +kernel)) (by decide +kernel)
theorem kw_459 : (Jvm.Cond.code ({ cls := "CoastLamps$Outer", name := "rank", desc := "()I" } : Jvm.MethodName) prog_9_method_4_code (1 : Nat) (Option.some Jvm.ClassFile.FieldType.int)) ∈ tbl := tbl_of (List.mem_of_getElem? (i := 505) (by decide +kernel)) (by decide +kernel)
theorem kw_460 : (Jvm.Cond.methodLink "CoastLamps$Outer" (37 : Nat) ({ cls := "CoastLamps$Buoy", name := "rank", desc := "()I" } : Jvm.MethodName)) ∈ tbl := tbl_of (List.mem_of_getElem? (i := 506) (by decide +kernel)) (by decide +kernel)
theorem kw_461 : (Jvm.Cond.sameMethod "CoastLamps$Buoy" "CoastLamps$Flare" "rank" "()I") ∈ tbl := tbl_of (List.mem_of_getElem? (i := 507) (by decide +kernel)) (by decide +kernel)
theorem kw_463 : (Jvm.Cond.selects "CoastLamps$Round" ({ cls := "CoastLamps$Lamp", name := "rank", desc := "()I" } : Jvm.MethodName) ({ cls := "CoastLamps$Oil", name := "rank", desc := "()I" } : Jvm.MethodName)) ∈ tbl := tbl_of (List.mem_of_getElem? (i := 509) (by decide +kernel)) (by decide +kernel)
theorem kw_464 : (Jvm.Cond.selects "CoastLamps$Swing" ({ cls := "CoastLamps$Lamp", name := "rank", desc := "()I" } : Jvm.MethodName) ({ cls := "CoastLamps$Drum", name := "rank", desc := "()I" } : Jvm.MethodName)) ∈ tbl := tbl_of (List.mem_of_getElem? (i := 510) (by decide +kernel)) (by decide +kernel)
theorem kw_465 : (Jvm.Cond.selects "CoastLamps$Twin" ({ cls := "CoastLamps$Lamp", name := "rank", desc := "()I" } : Jvm.MethodName) ({ cls := "CoastLamps$Oil", name := "rank", desc := "()I" } : Jvm.MethodName)) ∈ tbl := tbl_of (List.mem_of_getElem? (i := 511) (by decide +kernel)) (by decide +kernel)
theorem kw_466 : (Jvm.Cond.code ({ cls := "CoastLamps$Lamp", name := "rank", desc := "()I" } : Jvm.MethodName) prog_7_method_8_code (1 : Nat) (Option.some Jvm.ClassFile.FieldType.int)) ∈ tbl := tbl_of (List.mem_of_getElem? (i := 512) (by decide +kernel)) (by decide +kernel)
theorem kw_467 : (Jvm.Cond.methodLink "CoastLamps" (73 : Nat) ({ cls := "CoastLamps$Lamp", name := "horn", desc := "(I)I" } : Jvm.MethodName)) ∈ tbl := tbl_of (List.mem_of_getElem? (i := 513) (by decide +kernel)) (by decide +kernel)
theorem kw_468 : (Jvm.Cond.instanceMethod ({ cls := "CoastLamps$Lamp", name := "horn", desc := "(I)I" } : Jvm.MethodName)) ∈ tbl := tbl_of (List.mem_of_getElem? (i := 514) (by decide +kernel)) (by decide +kernel)
theorem kw_469 : (Jvm.Cond.sameMethod "CoastLamps$Lamp" "CoastLamps$Lamp" "horn" "(I)I") ∈ tbl := tbl_of (List.mem_of_getElem? (i := 515) (by decide +kernel)) (by decide +kernel)
theorem kw_470 : (Jvm.Cond.selects "CoastLamps$Buoy" ({ cls := "CoastLamps$Lamp", name := "horn", desc := "(I)I" } : Jvm.MethodName) ({ cls := "CoastLamps$Lamp", name := "horn", desc := "(I)I" } : Jvm.MethodName)) ∈ tbl := tbl_of (List.mem_of_getElem? (i := 516) (by decide +kernel)) (by decide +kernel)
theorem kw_471 : (Jvm.Cond.selects "CoastLamps$Drum" ({ cls := "CoastLamps$Lamp", name := "horn", desc := "(I)I" } : Jvm.MethodName) ({ cls := "CoastLamps$Lamp", name := "horn", desc := "(I)I" } : Jvm.MethodName)) ∈ tbl := tbl_of (List.mem_of_getElem? (i := 517) (by decide +kernel)) (by decide +kernel)
theorem kw_472 : (Jvm.Cond.selects "CoastLamps$Flare" ({ cls := "CoastLamps$Lamp", name := "horn", desc := "(I)I" } : Jvm.MethodName) ({ cls := "CoastLamps$Lamp", name := "horn", desc := "(I)I" } : Jvm.MethodName)) ∈ tbl := tbl_of (List.mem_of_getElem? (i := 518) (by decide +kernel)) (by decide +kernel)
theorem kw_473 : (Jvm.Cond.selects "CoastLamps$Gas" ({ cls := "CoastLamps$Lamp", name := "horn", desc := "(I)I" } : Jvm.MethodName) ({ cls := "CoastLamps$Lamp", name := "horn", desc := "(I)I" } : Jvm.MethodName)) ∈ tbl := tbl_of (List.mem_of_getElem? (i := 519) (by decide +kernel)) (by decide +kernel)
theorem kw_474 : (Jvm.Cond.selects "CoastLamps$Oil" ({ cls := "CoastLamps$Lamp", name := "horn", desc := "(I)I" } : Jvm.MethodName) ({ cls := "CoastLamps$Lamp", name := "horn", desc := "(I)I" } : Jvm.MethodName)) ∈ tbl := tbl_of (List.mem_of_getElem? (i := 520) (by decide +kernel)) (by decide +kernel)
theorem kw_475 : (Jvm.Cond.selects "CoastLamps$Outer" ({ cls := "CoastLamps$Lamp", name := "horn", desc := "(I)I" } : Jvm.MethodName) ({ cls := "CoastLamps$Lamp", name := "horn", desc := "(I)I" } : Jvm.MethodName)) ∈ tbl := tbl_of (List.mem_of_getElem? (i := 521) (by decide +kernel)) (by decide +kernel)
theorem kw_476 : (Jvm.Cond.selects "CoastLamps$Round" ({ cls := "CoastLamps$Lamp", name := "horn", desc := "(I)I" } : Jvm.MethodName) ({ cls := "CoastLamps$Lamp", name := "horn", desc := "(I)I" } : Jvm.MethodName)) ∈ tbl := tbl_of (List.mem_of_getElem? (i := 522) (by decide +kernel)) (by decide +kernel)
theorem kw_477 : (Jvm.Cond.selects "CoastLamps$Swing" ({ cls := "CoastLamps$Lamp", name := "horn", desc := "(I)I" } : Jvm.MethodName) ({ cls := "CoastLamps$Swing", name := "horn", desc := "(I)I" } : Jvm.MethodName)) ∈ tbl := tbl_of (List.mem_of_getElem? (i := 523) (by decide +kernel)) (by decide +kernel)
theorem kw_478 : (Jvm.Cond.instanceMethod ({ cls := "CoastLamps$Swing", name := "horn", desc := "(I)I" } : Jvm.MethodName)) ∈ tbl := tbl_of (List.mem_of_getElem? (i := 524) (by decide +kernel)) (by decide +kernel)
theorem kw_479 : (Jvm.Cond.code ({ cls := "CoastLamps$Swing", name := "horn", desc := "(I)I" } : Jvm.MethodName) prog_11_method_4_code (2 : Nat) (Option.some Jvm.ClassFile.FieldType.int)) ∈ tbl := tbl_of (List.mem_of_getElem? (i := 525) (by decide +kernel)) (by decide +kernel)
theorem kw_480 : (Jvm.Cond.methodLink "CoastLamps$Swing" (28 : Nat) ({ cls := "CoastLamps$Swing", name := "tone", desc := "()I" } : Jvm.MethodName)) ∈ tbl := tbl_of (List.mem_of_getElem? (i := 526) (by decide +kernel)) (by decide +kernel)
theorem kw_481 : (Jvm.Cond.sameMethod "CoastLamps$Swing" "CoastLamps$Drum" "tone" "()I") ∈ tbl := tbl_of (List.mem_of_getElem? (i := 527) (by decide +kernel)) (by decide +kernel)
theorem kw_483 : (Jvm.Cond.selects "CoastLamps$Swing" ({ cls := "CoastLamps$Swing", name := "tone", desc := "()I" } : Jvm.MethodName) ({ cls := "CoastLamps$Drum", name := "tone", desc := "()I" } : Jvm.MethodName)) ∈ tbl := tbl_of (List.mem_of_getElem? (i := 529) (by decide +kernel)) (by decide +kernel)
theorem kw_484 : (Jvm.Cond.instanceMethod ({ cls := "CoastLamps$Drum", name := "tone", desc := "()I" } : Jvm.MethodName)) ∈ tbl := tbl_of (List.mem_of_getElem? (i := 530) (by decide +kernel)) (by decide +kernel)
theorem kw_485 : (Jvm.Cond.code ({ cls := "CoastLamps$Drum", name := "tone", desc := "()I" } : Jvm.MethodName) prog_4_method_5_code (1 : Nat) (Option.some Jvm.ClassFile.FieldType.int)) ∈ tbl := tbl_of (List.mem_of_getElem? (i := 531) (by decide +kernel)) (by decide +kernel)
theorem kw_486 : (Jvm.Cond.methodLink "CoastLamps$Drum" (41 : Nat) ({ cls := "CoastLamps$Twin", name := "tone", desc := "()I" } : Jvm.MethodName)) ∈ tbl := tbl_of (List.mem_of_getElem? (i := 532) (by decide +kernel)) (by decide +kernel)
theorem kw_487 : (Jvm.Cond.sameMethod "CoastLamps$Twin" "CoastLamps$Oil" "tone" "()I") ∈ tbl := tbl_of (List.mem_of_getElem? (i := 533) (by decide +kernel)) (by decide +kernel)
theorem kw_489 : (Jvm.Cond.instanceMethod ({ cls := "CoastLamps$Oil", name := "tone", desc := "()I" } : Jvm.MethodName)) ∈ tbl := tbl_of (List.mem_of_getElem? (i := 535) (by decide +kernel)) (by decide +kernel)
theorem kw_490 : (Jvm.Cond.code ({ cls := "CoastLamps$Oil", name := "tone", desc := "()I" } : Jvm.MethodName) prog_8_method_4_code (1 : Nat) (Option.some Jvm.ClassFile.FieldType.int)) ∈ tbl := tbl_of (List.mem_of_getElem? (i := 536) (by decide +kernel)) (by decide +kernel)
theorem kw_491 : (Jvm.Cond.selects "CoastLamps$Twin" ({ cls := "CoastLamps$Lamp", name := "horn", desc := "(I)I" } : Jvm.MethodName) ({ cls := "CoastLamps$Lamp", name := "horn", desc := "(I)I" } : Jvm.MethodName)) ∈ tbl := tbl_of (List.mem_of_getElem? (i := 537) (by decide +kernel)) (by decide +kernel)
theorem kw_492 : (Jvm.Cond.code ({ cls := "CoastLamps$Lamp", name := "horn", desc := "(I)I" } : Jvm.MethodName) prog_7_method_9_code (3 : Nat) (Option.some Jvm.ClassFile.FieldType.int)) ∈ tbl := tbl_of (List.mem_of_getElem? (i := 538) (by decide +kernel)) (by decide +kernel)
theorem kw_493 : (Jvm.Cond.methodLink "CoastLamps$Lamp" (48 : Nat) ({ cls := "CoastLamps$Lamp", name := "tone", desc := "()I" } : Jvm.MethodName)) ∈ tbl := tbl_of (List.mem_of_getElem? (i := 539) (by decide +kernel)) (by decide +kernel)
theorem kw_494 : (Jvm.Cond.instanceMethod ({ cls := "CoastLamps$Lamp", name := "tone", desc := "()I" } : Jvm.MethodName)) ∈ tbl := tbl_of (List.mem_of_getElem? (i := 540) (by decide +kernel)) (by decide +kernel)
theorem kw_495 : (Jvm.Cond.sameMethod "CoastLamps$Lamp" "CoastLamps$Lamp" "tone" "()I") ∈ tbl := tbl_of (List.mem_of_getElem? (i := 541) (by decide +kernel)) (by decide +kernel)
theorem kw_496 : (Jvm.Cond.selects "CoastLamps$Buoy" ({ cls := "CoastLamps$Lamp", name := "tone", desc := "()I" } : Jvm.MethodName) ({ cls := "CoastLamps$Flare", name := "tone", desc := "()I" } : Jvm.MethodName)) ∈ tbl := tbl_of (List.mem_of_getElem? (i := 542) (by decide +kernel)) (by decide +kernel)
theorem kw_497 : (Jvm.Cond.instanceMethod ({ cls := "CoastLamps$Flare", name := "tone", desc := "()I" } : Jvm.MethodName)) ∈ tbl := tbl_of (List.mem_of_getElem? (i := 543) (by decide +kernel)) (by decide +kernel)
theorem kw_498 : (Jvm.Cond.code ({ cls := "CoastLamps$Flare", name := "tone", desc := "()I" } : Jvm.MethodName) prog_5_method_6_code (1 : Nat) (Option.some Jvm.ClassFile.FieldType.int)) ∈ tbl := tbl_of (List.mem_of_getElem? (i := 544) (by decide +kernel)) (by decide +kernel)
theorem kw_499 : (Jvm.Cond.selects "CoastLamps$Drum" ({ cls := "CoastLamps$Lamp", name := "tone", desc := "()I" } : Jvm.MethodName) ({ cls := "CoastLamps$Drum", name := "tone", desc := "()I" } : Jvm.MethodName)) ∈ tbl := tbl_of (List.mem_of_getElem? (i := 545) (by decide +kernel)) (by decide +kernel)
theorem kw_500 : (Jvm.Cond.selects "CoastLamps$Flare" ({ cls := "CoastLamps$Lamp", name := "tone", desc := "()I" } : Jvm.MethodName) ({ cls := "CoastLamps$Flare", name := "tone", desc := "()I" } : Jvm.MethodName)) ∈ tbl := tbl_of (List.mem_of_getElem? (i := 546) (by decide +kernel)) (by decide +kernel)
theorem kw_501 : (Jvm.Cond.selects "CoastLamps$Gas" ({ cls := "CoastLamps$Lamp", name := "tone", desc := "()I" } : Jvm.MethodName) ({ cls := "CoastLamps$Lamp", name := "tone", desc := "()I" } : Jvm.MethodName)) ∈ tbl := tbl_of (List.mem_of_getElem? (i := 547) (by decide +kernel)) (by decide +kernel)
theorem kw_502 : (Jvm.Cond.selects "CoastLamps$Oil" ({ cls := "CoastLamps$Lamp", name := "tone", desc := "()I" } : Jvm.MethodName) ({ cls := "CoastLamps$Oil", name := "tone", desc := "()I" } : Jvm.MethodName)) ∈ tbl := tbl_of (List.mem_of_getElem? (i := 548) (by decide +kernel)) (by decide +kernel)
theorem kw_503 : (Jvm.Cond.selects "CoastLamps$Outer" ({ cls := "CoastLamps$Lamp", name := "tone", desc := "()I" } : Jvm.MethodName) ({ cls := "CoastLamps$Outer", name := "tone", desc := "()I" } : Jvm.MethodName)) ∈ tbl := tbl_of (List.mem_of_getElem? (i := 549) (by decide +kernel)) (by decide +kernel)
theorem kw_504 : (Jvm.Cond.instanceMethod ({ cls := "CoastLamps$Outer", name := "tone", desc := "()I" } : Jvm.MethodName)) ∈ tbl := tbl_of (List.mem_of_getElem? (i := 550) (by decide +kernel)) (by decide +kernel)
theorem kw_505 : (Jvm.Cond.code ({ cls := "CoastLamps$Outer", name := "tone", desc := "()I" } : Jvm.MethodName) prog_9_method_5_code (2 : Nat) (Option.some Jvm.ClassFile.FieldType.int)) ∈ tbl := tbl_of (List.mem_of_getElem? (i := 551) (by decide +kernel)) (by decide +kernel)
theorem kw_506 : (Jvm.Cond.methodLink "CoastLamps$Outer" (45 : Nat) ({ cls := "CoastLamps$Buoy", name := "tone", desc := "()I" } : Jvm.MethodName)) ∈ tbl := tbl_of (List.mem_of_getElem? (i := 552) (by decide +kernel)) (by decide +kernel)
theorem kw_507 : (Jvm.Cond.sameMethod "CoastLamps$Buoy" "CoastLamps$Flare" "tone" "()I") ∈ tbl := tbl_of (List.mem_of_getElem? (i := 553) (by decide +kernel)) (by decide +kernel)
theorem kw_509 : (Jvm.Cond.methodLink "CoastLamps$Outer" (48 : Nat) ({ cls := "CoastLamps$Outer", name := "rank", desc := "()I" } : Jvm.MethodName)) ∈ tbl := tbl_of (List.mem_of_getElem? (i := 555) (by decide +kernel)) (by decide +kernel)
theorem kw_510 : (Jvm.Cond.selects "CoastLamps$Round" ({ cls := "CoastLamps$Lamp", name := "tone", desc := "()I" } : Jvm.MethodName) ({ cls := "CoastLamps$Oil", name := "tone", desc := "()I" } : Jvm.MethodName)) ∈ tbl := tbl_of (List.mem_of_getElem? (i := 556) (by decide +kernel)) (by decide +kernel)
theorem kw_511 : (Jvm.Cond.selects "CoastLamps$Swing" ({ cls := "CoastLamps$Lamp", name := "tone", desc := "()I" } : Jvm.MethodName) ({ cls := "CoastLamps$Drum", name := "tone", desc := "()I" } : Jvm.MethodName)) ∈ tbl := tbl_of (List.mem_of_getElem? (i := 557) (by decide +kernel)) (by decide +kernel)
theorem kw_512 : (Jvm.Cond.selects "CoastLamps$Twin" ({ cls := "CoastLamps$Lamp", name := "tone", desc := "()I" } : Jvm.MethodName) ({ cls := "CoastLamps$Oil", name := "tone", desc := "()I" } : Jvm.MethodName)) ∈ tbl := tbl_of (List.mem_of_getElem? (i := 558) (by decide +kernel)) (by decide +kernel)
theorem kw_513 : (Jvm.Cond.code ({ cls := "CoastLamps$Lamp", name := "tone", desc := "()I" } : Jvm.MethodName) prog_7_method_10_code (1 : Nat) (Option.some Jvm.ClassFile.FieldType.int)) ∈ tbl := tbl_of (List.mem_of_getElem? (i := 559) (by decide +kernel)) (by decide +kernel)
theorem kw_514 : (Jvm.Cond.methodLink "CoastLamps$Lamp" (52 : Nat) ({ cls := "CoastLamps$Lamp", name := "reach", desc := "(I)I" } : Jvm.MethodName)) ∈ tbl := tbl_of (List.mem_of_getElem? (i := 560) (by decide +kernel)) (by decide +kernel)
theorem kw_515 : (Jvm.Cond.methodLink "CoastLamps" (76 : Nat) ({ cls := "CoastLamps$Lamp", name := "tone", desc := "()I" } : Jvm.MethodName)) ∈ tbl := tbl_of (List.mem_of_getElem? (i := 561) (by decide +kernel)) (by decide +kernel)
theorem kw_516 : (Jvm.Cond.methodLink "CoastLampsLaw" (27 : Nat) ({ cls := "CoastLamps", name := "trace", desc := "(I)I" } : Jvm.MethodName)) ∈ tbl := tbl_of (List.mem_of_getElem? (i := 562) (by decide +kernel)) (by decide +kernel)
theorem kw_517 : (Jvm.Cond.instanceMethod ({ cls := "CoastLamps", name := "trace", desc := "(I)I" } : Jvm.MethodName)) ∈ tbl := tbl_of (List.mem_of_getElem? (i := 563) (by decide +kernel)) (by decide +kernel)
theorem kw_518 : (Jvm.Cond.selects "CoastLamps" ({ cls := "CoastLamps", name := "trace", desc := "(I)I" } : Jvm.MethodName) ({ cls := "CoastLamps", name := "trace", desc := "(I)I" } : Jvm.MethodName)) ∈ tbl := tbl_of (List.mem_of_getElem? (i := 564) (by decide +kernel)) (by decide +kernel)
theorem kw_519 : (Jvm.Cond.code ({ cls := "CoastLamps", name := "trace", desc := "(I)I" } : Jvm.MethodName) prog_1_method_5_code (2 : Nat) (Option.some Jvm.ClassFile.FieldType.int)) ∈ tbl := tbl_of (List.mem_of_getElem? (i := 565) (by decide +kernel)) (by decide +kernel)
theorem kw_520 : (Jvm.Cond.methodLink "CoastLamps" (82 : Nat) ({ cls := "CoastLamps$Coast", name := "entry", desc := "(I)I" } : Jvm.MethodName)) ∈ tbl := tbl_of (List.mem_of_getElem? (i := 566) (by decide +kernel)) (by decide +kernel)
theorem kw_521 : (Jvm.Cond.instanceMethod ({ cls := "CoastLamps$Coast", name := "entry", desc := "(I)I" } : Jvm.MethodName)) ∈ tbl := tbl_of (List.mem_of_getElem? (i := 567) (by decide +kernel)) (by decide +kernel)
theorem kw_522 : (Jvm.Cond.selects "CoastLamps$Coast" ({ cls := "CoastLamps$Coast", name := "entry", desc := "(I)I" } : Jvm.MethodName) ({ cls := "CoastLamps$Coast", name := "entry", desc := "(I)I" } : Jvm.MethodName)) ∈ tbl := tbl_of (List.mem_of_getElem? (i := 568) (by decide +kernel)) (by decide +kernel)
theorem kw_523 : (Jvm.Cond.code ({ cls := "CoastLamps$Coast", name := "entry", desc := "(I)I" } : Jvm.MethodName) prog_3_method_4_code (2 : Nat) (Option.some Jvm.ClassFile.FieldType.int)) ∈ tbl := tbl_of (List.mem_of_getElem? (i := 569) (by decide +kernel)) (by decide +kernel)
theorem kw_524 : (Jvm.Cond.methodLink "CoastLampsLaw" (32 : Nat) ({ cls := "CoastLamps", name := "haul", desc := "(I)J" } : Jvm.MethodName)) ∈ tbl := tbl_of (List.mem_of_getElem? (i := 570) (by decide +kernel)) (by decide +kernel)
theorem kw_525 : (Jvm.Cond.instanceMethod ({ cls := "CoastLamps", name := "haul", desc := "(I)J" } : Jvm.MethodName)) ∈ tbl := tbl_of (List.mem_of_getElem? (i := 571) (by decide +kernel)) (by decide +kernel)
theorem kw_526 : (Jvm.Cond.selects "CoastLamps" ({ cls := "CoastLamps", name := "haul", desc := "(I)J" } : Jvm.MethodName) ({ cls := "CoastLamps", name := "haul", desc := "(I)J" } : Jvm.MethodName)) ∈ tbl := tbl_of (List.mem_of_getElem? (i := 572) (by decide +kernel)) (by decide +kernel)
theorem kw_527 : (Jvm.Cond.code ({ cls := "CoastLamps", name := "haul", desc := "(I)J" } : Jvm.MethodName) prog_1_method_6_code (2 : Nat) (Option.some Jvm.ClassFile.FieldType.long)) ∈ tbl := tbl_of (List.mem_of_getElem? (i := 573) (by decide +kernel)) (by decide +kernel)
theorem kw_528 : (Jvm.Cond.constant "CoastLamps" (85 : Nat) (100000 : Int32)) ∈ tbl := tbl_of (List.mem_of_getElem? (i := 574) (by decide +kernel)) (by decide +kernel)
theorem kw_529 : (Jvm.Cond.methodLink "CoastLampsLaw" (37 : Nat) ({ cls := "CoastLamps", name := "fill", desc := "(II)I" } : Jvm.MethodName)) ∈ tbl := tbl_of (List.mem_of_getElem? (i := 575) (by decide +kernel)) (by decide +kernel)
theorem kw_530 : (Jvm.Cond.instanceMethod ({ cls := "CoastLamps", name := "fill", desc := "(II)I" } : Jvm.MethodName)) ∈ tbl := tbl_of (List.mem_of_getElem? (i := 576) (by decide +kernel)) (by decide +kernel)
theorem kw_531 : (Jvm.Cond.selects "CoastLamps" ({ cls := "CoastLamps", name := "fill", desc := "(II)I" } : Jvm.MethodName) ({ cls := "CoastLamps", name := "fill", desc := "(II)I" } : Jvm.MethodName)) ∈ tbl := tbl_of (List.mem_of_getElem? (i := 577) (by decide +kernel)) (by decide +kernel)
theorem kw_532 : (Jvm.Cond.code ({ cls := "CoastLamps", name := "fill", desc := "(II)I" } : Jvm.MethodName) prog_1_method_7_code (4 : Nat) (Option.some Jvm.ClassFile.FieldType.int)) ∈ tbl := tbl_of (List.mem_of_getElem? (i := 578) (by decide +kernel)) (by decide +kernel)
theorem kw_533 : (Jvm.Cond.constant "CoastLamps" (93 : Nat) (1000000 : Int32)) ∈ tbl := tbl_of (List.mem_of_getElem? (i := 579) (by decide +kernel)) (by decide +kernel)
theorem kw_534 : (Jvm.Cond.methodLink "CoastLampsLaw" (41 : Nat) ({ cls := "CoastLamps", name := "light", desc := "(IZ)I" } : Jvm.MethodName)) ∈ tbl := tbl_of (List.mem_of_getElem? (i := 580) (by decide +kernel)) (by decide +kernel)
theorem kw_535 : (Jvm.Cond.instanceMethod ({ cls := "CoastLamps", name := "light", desc := "(IZ)I" } : Jvm.MethodName)) ∈ tbl := tbl_of (List.mem_of_getElem? (i := 581) (by decide +kernel)) (by decide +kernel)
theorem kw_536 : (Jvm.Cond.selects "CoastLamps" ({ cls := "CoastLamps", name := "light", desc := "(IZ)I" } : Jvm.MethodName) ({ cls := "CoastLamps", name := "light", desc := "(IZ)I" } : Jvm.MethodName)) ∈ tbl := tbl_of (List.mem_of_getElem? (i := 582) (by decide +kernel)) (by decide +kernel)
theorem kw_537 : (Jvm.Cond.code ({ cls := "CoastLamps", name := "light", desc := "(IZ)I" } : Jvm.MethodName) prog_1_method_8_code (4 : Nat) (Option.some Jvm.ClassFile.FieldType.int)) ∈ tbl := tbl_of (List.mem_of_getElem? (i := 583) (by decide +kernel)) (by decide +kernel)
theorem kw_538 : (Jvm.Cond.methodLink "CoastLampsLaw" (46 : Nat) ({ cls := "CoastLamps", name := "night", desc := "(I)I" } : Jvm.MethodName)) ∈ tbl := tbl_of (List.mem_of_getElem? (i := 584) (by decide +kernel)) (by decide +kernel)
theorem kw_539 : (Jvm.Cond.instanceMethod ({ cls := "CoastLamps", name := "night", desc := "(I)I" } : Jvm.MethodName)) ∈ tbl := tbl_of (List.mem_of_getElem? (i := 585) (by decide +kernel)) (by decide +kernel)
theorem kw_540 : (Jvm.Cond.selects "CoastLamps" ({ cls := "CoastLamps", name := "night", desc := "(I)I" } : Jvm.MethodName) ({ cls := "CoastLamps", name := "night", desc := "(I)I" } : Jvm.MethodName)) ∈ tbl := tbl_of (List.mem_of_getElem? (i := 586) (by decide +kernel)) (by decide +kernel)
theorem kw_541 : (Jvm.Cond.code ({ cls := "CoastLamps", name := "night", desc := "(I)I" } : Jvm.MethodName) prog_1_method_9_code (5 : Nat) (Option.some Jvm.ClassFile.FieldType.int)) ∈ tbl := tbl_of (List.mem_of_getElem? (i := 587) (by decide +kernel)) (by decide +kernel)
theorem kw_542 : (Jvm.Cond.methodLink "CoastLamps" (101 : Nat) ({ cls := "CoastLamps", name := "anyLit", desc := "()Z" } : Jvm.MethodName)) ∈ tbl := tbl_of (List.mem_of_getElem? (i := 588) (by decide +kernel)) (by decide +kernel)
theorem kw_544 : (Jvm.Cond.instanceMethod ({ cls := "CoastLamps", name := "anyLit", desc := "()Z" } : Jvm.MethodName)) ∈ tbl := tbl_of (List.mem_of_getElem? (i := 590) (by decide +kernel)) (by decide +kernel)
theorem kw_545 : (Jvm.Cond.code ({ cls := "CoastLamps", name := "anyLit", desc := "()Z" } : Jvm.MethodName) prog_1_method_18_code (3 : Nat) (Option.some Jvm.ClassFile.FieldType.boolean)) ∈ tbl := tbl_of (List.mem_of_getElem? (i := 591) (by decide +kernel)) (by decide +kernel)
theorem kw_546 : (Jvm.Cond.methodLink "CoastLamps" (104 : Nat) ({ cls := "java/lang/Math", name := "max", desc := "(II)I" } : Jvm.MethodName)) ∈ tbl := tbl_of (List.mem_of_getElem? (i := 592) (by decide +kernel)) (by decide +kernel)
theorem kw_547 : (Jvm.Cond.methodLink "CoastLamps" (110 : Nat) ({ cls := "CoastLamps$Lamp", name := "drain", desc := "(I)V" } : Jvm.MethodName)) ∈ tbl := tbl_of (List.mem_of_getElem? (i := 593) (by decide +kernel)) (by decide +kernel)
theorem kw_548 : (Jvm.Cond.instanceMethod ({ cls := "CoastLamps$Lamp", name := "drain", desc := "(I)V" } : Jvm.MethodName)) ∈ tbl := tbl_of (List.mem_of_getElem? (i := 594) (by decide +kernel)) (by decide +kernel)
theorem kw_549 : (Jvm.Cond.sameMethod "CoastLamps$Lamp" "CoastLamps$Lamp" "drain" "(I)V") ∈ tbl := tbl_of (List.mem_of_getElem? (i := 595) (by decide +kernel)) (by decide +kernel)
theorem kw_550 : (Jvm.Cond.selects "CoastLamps$Buoy" ({ cls := "CoastLamps$Lamp", name := "drain", desc := "(I)V" } : Jvm.MethodName) ({ cls := "CoastLamps$Lamp", name := "drain", desc := "(I)V" } : Jvm.MethodName)) ∈ tbl := tbl_of (List.mem_of_getElem? (i := 596) (by decide +kernel)) (by decide +kernel)
theorem kw_551 : (Jvm.Cond.selects "CoastLamps$Drum" ({ cls := "CoastLamps$Lamp", name := "drain", desc := "(I)V" } : Jvm.MethodName) ({ cls := "CoastLamps$Lamp", name := "drain", desc := "(I)V" } : Jvm.MethodName)) ∈ tbl := tbl_of (List.mem_of_getElem? (i := 597) (by decide +kernel)) (by decide +kernel)
theorem kw_552 : (Jvm.Cond.selects "CoastLamps$Flare" ({ cls := "CoastLamps$Lamp", name := "drain", desc := "(I)V" } : Jvm.MethodName) ({ cls := "CoastLamps$Lamp", name := "drain", desc := "(I)V" } : Jvm.MethodName)) ∈ tbl := tbl_of (List.mem_of_getElem? (i := 598) (by decide +kernel)) (by decide +kernel)
theorem kw_553 : (Jvm.Cond.selects "CoastLamps$Gas" ({ cls := "CoastLamps$Lamp", name := "drain", desc := "(I)V" } : Jvm.MethodName) ({ cls := "CoastLamps$Lamp", name := "drain", desc := "(I)V" } : Jvm.MethodName)) ∈ tbl := tbl_of (List.mem_of_getElem? (i := 599) (by decide +kernel)) (by decide +kernel)
theorem kw_554 : (Jvm.Cond.selects "CoastLamps$Oil" ({ cls := "CoastLamps$Lamp", name := "drain", desc := "(I)V" } : Jvm.MethodName) ({ cls := "CoastLamps$Lamp", name := "drain", desc := "(I)V" } : Jvm.MethodName)) ∈ tbl := tbl_of (List.mem_of_getElem? (i := 600) (by decide +kernel)) (by decide +kernel)
theorem kw_555 : (Jvm.Cond.selects "CoastLamps$Outer" ({ cls := "CoastLamps$Lamp", name := "drain", desc := "(I)V" } : Jvm.MethodName) ({ cls := "CoastLamps$Lamp", name := "drain", desc := "(I)V" } : Jvm.MethodName)) ∈ tbl := tbl_of (List.mem_of_getElem? (i := 601) (by decide +kernel)) (by decide +kernel)
theorem kw_556 : (Jvm.Cond.selects "CoastLamps$Round" ({ cls := "CoastLamps$Lamp", name := "drain", desc := "(I)V" } : Jvm.MethodName) ({ cls := "CoastLamps$Lamp", name := "drain", desc := "(I)V" } : Jvm.MethodName)) ∈ tbl := tbl_of (List.mem_of_getElem? (i := 602) (by decide +kernel)) (by decide +kernel)
theorem kw_557 : (Jvm.Cond.selects "CoastLamps$Swing" ({ cls := "CoastLamps$Lamp", name := "drain", desc := "(I)V" } : Jvm.MethodName) ({ cls := "CoastLamps$Lamp", name := "drain", desc := "(I)V" } : Jvm.MethodName)) ∈ tbl := tbl_of (List.mem_of_getElem? (i := 603) (by decide +kernel)) (by decide +kernel)
theorem kw_558 : (Jvm.Cond.selects "CoastLamps$Twin" ({ cls := "CoastLamps$Lamp", name := "drain", desc := "(I)V" } : Jvm.MethodName) ({ cls := "CoastLamps$Lamp", name := "drain", desc := "(I)V" } : Jvm.MethodName)) ∈ tbl := tbl_of (List.mem_of_getElem? (i := 604) (by decide +kernel)) (by decide +kernel)
theorem kw_559 : (Jvm.Cond.code ({ cls := "CoastLamps$Lamp", name := "drain", desc := "(I)V" } : Jvm.MethodName) prog_7_method_2_code (2 : Nat) (Option.none : Option Jvm.ClassFile.FieldType)) ∈ tbl := tbl_of (List.mem_of_getElem? (i := 605) (by decide +kernel)) (by decide +kernel)
theorem kw_560 : (Jvm.Cond.methodLink "CoastLampsLaw" (50 : Nat) ({ cls := "CoastLamps", name := "seen", desc := "(I)I" } : Jvm.MethodName)) ∈ tbl := tbl_of (List.mem_of_getElem? (i := 606) (by decide +kernel)) (by decide +kernel)
theorem kw_561 : (Jvm.Cond.instanceMethod ({ cls := "CoastLamps", name := "seen", desc := "(I)I" } : Jvm.MethodName)) ∈ tbl := tbl_of (List.mem_of_getElem? (i := 607) (by decide +kernel)) (by decide +kernel)
theorem kw_562 : (Jvm.Cond.selects "CoastLamps" ({ cls := "CoastLamps", name := "seen", desc := "(I)I" } : Jvm.MethodName) ({ cls := "CoastLamps", name := "seen", desc := "(I)I" } : Jvm.MethodName)) ∈ tbl := tbl_of (List.mem_of_getElem? (i := 608) (by decide +kernel)) (by decide +kernel)
theorem kw_563 : (Jvm.Cond.code ({ cls := "CoastLamps", name := "seen", desc := "(I)I" } : Jvm.MethodName) prog_1_method_10_code (7 : Nat) (Option.some Jvm.ClassFile.FieldType.int)) ∈ tbl := tbl_of (List.mem_of_getElem? (i := 609) (by decide +kernel)) (by decide +kernel)
theorem kw_564 : (Jvm.Cond.methodLink "CoastLampsLaw" (54 : Nat) ({ cls := "CoastLamps", name := "blow", desc := "(II)I" } : Jvm.MethodName)) ∈ tbl := tbl_of (List.mem_of_getElem? (i := 610) (by decide +kernel)) (by decide +kernel)
theorem kw_565 : (Jvm.Cond.instanceMethod ({ cls := "CoastLamps", name := "blow", desc := "(II)I" } : Jvm.MethodName)) ∈ tbl := tbl_of (List.mem_of_getElem? (i := 611) (by decide +kernel)) (by decide +kernel)
theorem kw_566 : (Jvm.Cond.selects "CoastLamps" ({ cls := "CoastLamps", name := "blow", desc := "(II)I" } : Jvm.MethodName) ({ cls := "CoastLamps", name := "blow", desc := "(II)I" } : Jvm.MethodName)) ∈ tbl := tbl_of (List.mem_of_getElem? (i := 612) (by decide +kernel)) (by decide +kernel)
theorem kw_567 : (Jvm.Cond.code ({ cls := "CoastLamps", name := "blow", desc := "(II)I" } : Jvm.MethodName) prog_1_method_11_code (4 : Nat) (Option.some Jvm.ClassFile.FieldType.int)) ∈ tbl := tbl_of (List.mem_of_getElem? (i := 613) (by decide +kernel)) (by decide +kernel)
theorem kw_568 : (Jvm.Cond.methodLink "CoastLampsLaw" (58 : Nat) ({ cls := "CoastLamps", name := "blown", desc := "()I" } : Jvm.MethodName)) ∈ tbl := tbl_of (List.mem_of_getElem? (i := 614) (by decide +kernel)) (by decide +kernel)
theorem kw_569 : (Jvm.Cond.instanceMethod ({ cls := "CoastLamps", name := "blown", desc := "()I" } : Jvm.MethodName)) ∈ tbl := tbl_of (List.mem_of_getElem? (i := 615) (by decide +kernel)) (by decide +kernel)
theorem kw_570 : (Jvm.Cond.selects "CoastLamps" ({ cls := "CoastLamps", name := "blown", desc := "()I" } : Jvm.MethodName) ({ cls := "CoastLamps", name := "blown", desc := "()I" } : Jvm.MethodName)) ∈ tbl := tbl_of (List.mem_of_getElem? (i := 616) (by decide +kernel)) (by decide +kernel)
theorem kw_571 : (Jvm.Cond.code ({ cls := "CoastLamps", name := "blown", desc := "()I" } : Jvm.MethodName) prog_1_method_12_code (1 : Nat) (Option.some Jvm.ClassFile.FieldType.int)) ∈ tbl := tbl_of (List.mem_of_getElem? (i := 617) (by decide +kernel)) (by decide +kernel)
theorem kw_572 : (Jvm.Cond.methodLink "CoastLampsLaw" (63 : Nat) ({ cls := "CoastLamps", name := "told", desc := "(II)J" } : Jvm.MethodName)) ∈ tbl := tbl_of (List.mem_of_getElem? (i := 618) (by decide +kernel)) (by decide +kernel)
theorem kw_573 : (Jvm.Cond.instanceMethod ({ cls := "CoastLamps", name := "told", desc := "(II)J" } : Jvm.MethodName)) ∈ tbl := tbl_of (List.mem_of_getElem? (i := 619) (by decide +kernel)) (by decide +kernel)
theorem kw_574 : (Jvm.Cond.selects "CoastLamps" ({ cls := "CoastLamps", name := "told", desc := "(II)J" } : Jvm.MethodName) ({ cls := "CoastLamps", name := "told", desc := "(II)J" } : Jvm.MethodName)) ∈ tbl := tbl_of (List.mem_of_getElem? (i := 620) (by decide +kernel)) (by decide +kernel)
theorem kw_575 : (Jvm.Cond.code ({ cls := "CoastLamps", name := "told", desc := "(II)J" } : Jvm.MethodName) prog_1_method_13_code (4 : Nat) (Option.some Jvm.ClassFile.FieldType.long)) ∈ tbl := tbl_of (List.mem_of_getElem? (i := 621) (by decide +kernel)) (by decide +kernel)
theorem kw_576 : (Jvm.Cond.methodLink "CoastLampsLaw" (68 : Nat) ({ cls := "CoastLamps", name := "count", desc := "(I)I" } : Jvm.MethodName)) ∈ tbl := tbl_of (List.mem_of_getElem? (i := 622) (by decide +kernel)) (by decide +kernel)
theorem kw_577 : (Jvm.Cond.instanceMethod ({ cls := "CoastLamps", name := "count", desc := "(I)I" } : Jvm.MethodName)) ∈ tbl := tbl_of (List.mem_of_getElem? (i := 623) (by decide +kernel)) (by decide +kernel)
theorem kw_578 : (Jvm.Cond.selects "CoastLamps" ({ cls := "CoastLamps", name := "count", desc := "(I)I" } : Jvm.MethodName) ({ cls := "CoastLamps", name := "count", desc := "(I)I" } : Jvm.MethodName)) ∈ tbl := tbl_of (List.mem_of_getElem? (i := 624) (by decide +kernel)) (by decide +kernel)
theorem kw_579 : (Jvm.Cond.code ({ cls := "CoastLamps", name := "count", desc := "(I)I" } : Jvm.MethodName) prog_1_method_14_code (2 : Nat) (Option.some Jvm.ClassFile.FieldType.int)) ∈ tbl := tbl_of (List.mem_of_getElem? (i := 625) (by decide +kernel)) (by decide +kernel)
theorem kw_580 : (Jvm.Cond.methodLink "CoastLampsLaw" (72 : Nat) ({ cls := "CoastLamps", name := "store", desc := "()J" } : Jvm.MethodName)) ∈ tbl := tbl_of (List.mem_of_getElem? (i := 626) (by decide +kernel)) (by decide +kernel)
theorem kw_581 : (Jvm.Cond.instanceMethod ({ cls := "CoastLamps", name := "store", desc := "()J" } : Jvm.MethodName)) ∈ tbl := tbl_of (List.mem_of_getElem? (i := 627) (by decide +kernel)) (by decide +kernel)
theorem kw_582 : (Jvm.Cond.selects "CoastLamps" ({ cls := "CoastLamps", name := "store", desc := "()J" } : Jvm.MethodName) ({ cls := "CoastLamps", name := "store", desc := "()J" } : Jvm.MethodName)) ∈ tbl := tbl_of (List.mem_of_getElem? (i := 628) (by decide +kernel)) (by decide +kernel)
theorem kw_583 : (Jvm.Cond.code ({ cls := "CoastLamps", name := "store", desc := "()J" } : Jvm.MethodName) prog_1_method_15_code (1 : Nat) (Option.some Jvm.ClassFile.FieldType.long)) ∈ tbl := tbl_of (List.mem_of_getElem? (i := 629) (by decide +kernel)) (by decide +kernel)
theorem kw_584 : (Jvm.Cond.classLink "CoastLampsLaw" (10 : Nat) "CoastLampsModel") ∈ tbl := tbl_of (List.mem_of_getElem? (i := 630) (by decide +kernel)) (by decide +kernel)
theorem kw_585 : (Jvm.Cond.instantiable "CoastLampsModel" (13 : Nat)) ∈ tbl := tbl_of (List.mem_of_getElem? (i := 631) (by decide +kernel)) (by decide +kernel)
theorem kw_586 : (Jvm.Cond.methodLink "CoastLampsLaw" (12 : Nat) ({ cls := "CoastLampsModel", name := "<init>", desc := "()V" } : Jvm.MethodName)) ∈ tbl := tbl_of (List.mem_of_getElem? (i := 632) (by decide +kernel)) (by decide +kernel)
theorem kw_587 : (Jvm.Cond.instanceMethod ({ cls := "CoastLampsModel", name := "<init>", desc := "()V" } : Jvm.MethodName)) ∈ tbl := tbl_of (List.mem_of_getElem? (i := 633) (by decide +kernel)) (by decide +kernel)
theorem kw_588 : (Jvm.Cond.code ({ cls := "CoastLampsModel", name := "<init>", desc := "()V" } : Jvm.MethodName) prog_14_method_1_code (1 : Nat) (Option.none : Option Jvm.ClassFile.FieldType)) ∈ tbl := tbl_of (List.mem_of_getElem? (i := 634) (by decide +kernel)) (by decide +kernel)
theorem kw_589 : (Jvm.Cond.methodLink "CoastLampsModel" (1 : Nat) ({ cls := "java/lang/Object", name := "<init>", desc := "()V" } : Jvm.MethodName)) ∈ tbl := tbl_of (List.mem_of_getElem? (i := 635) (by decide +kernel)) (by decide +kernel)
theorem kw_590 : (Jvm.Cond.fieldLink "CoastLampsModel" (7 : Nat) "CoastLampsModel" "dials" "[I") ∈ tbl := tbl_of (List.mem_of_getElem? (i := 636) (by decide +kernel)) (by decide +kernel)
theorem kw_591 : (Jvm.Cond.fieldLink "CoastLampsModel" (32 : Nat) "CoastLampsModel" "lamps" "I") ∈ tbl := tbl_of (List.mem_of_getElem? (i := 637) (by decide +kernel)) (by decide +kernel)
theorem kw_592 : (Jvm.Cond.fieldLink "CoastLampsModel" (13 : Nat) "CoastLampsModel" "kind" "[I") ∈ tbl := tbl_of (List.mem_of_getElem? (i := 638) (by decide +kernel)) (by decide +kernel)
theorem kw_593 : (Jvm.Cond.fieldLink "CoastLampsModel" (16 : Nat) "CoastLampsModel" "height" "[I") ∈ tbl := tbl_of (List.mem_of_getElem? (i := 639) (by decide +kernel)) (by decide +kernel)
theorem kw_594 : (Jvm.Cond.fieldLink "CoastLampsModel" (19 : Nat) "CoastLampsModel" "tank" "[I") ∈ tbl := tbl_of (List.mem_of_getElem? (i := 640) (by decide +kernel)) (by decide +kernel)
theorem kw_595 : (Jvm.Cond.fieldLink "CoastLampsModel" (22 : Nat) "CoastLampsModel" "soot" "[I") ∈ tbl := tbl_of (List.mem_of_getElem? (i := 641) (by decide +kernel)) (by decide +kernel)
theorem kw_596 : (Jvm.Cond.fieldLink "CoastLampsModel" (25 : Nat) "CoastLampsModel" "lit" "[Z") ∈ tbl := tbl_of (List.mem_of_getElem? (i := 642) (by decide +kernel)) (by decide +kernel)
theorem kw_597 : (Jvm.Cond.fieldLink "CoastLampsModel" (179 : Nat) "CoastLampsModel" "store" "J") ∈ tbl := tbl_of (List.mem_of_getElem? (i := 643) (by decide +kernel)) (by decide +kernel)
theorem kw_598 : (Jvm.Cond.fieldLink "CoastLampsModel" (184 : Nat) "CoastLampsModel" "nights" "I") ∈ tbl := tbl_of (List.mem_of_getElem? (i := 644) (by decide +kernel)) (by decide +kernel)
theorem kw_599 : (Jvm.Cond.fieldLink "CoastLampsModel" (43 : Nat) "CoastLampsModel" "acts" "I") ∈ tbl := tbl_of (List.mem_of_getElem? (i := 645) (by decide +kernel)) (by decide +kernel)
theorem kw_600 : (Jvm.Cond.fieldLink "CoastLampsModel" (191 : Nat) "CoastLampsModel" "blown" "I") ∈ tbl := tbl_of (List.mem_of_getElem? (i := 646) (by decide +kernel)) (by decide +kernel)
theorem kw_601 : (Jvm.Cond.fieldLink "CoastLampsModel" (29 : Nat) "CoastLampsModel" "trace" "[I") ∈ tbl := tbl_of (List.mem_of_getElem? (i := 647) (by decide +kernel)) (by decide +kernel)
theorem kw_602 : (Jvm.Cond.fieldLink "CoastLampsModel" (40 : Nat) "CoastLampsModel" "traced" "I") ∈ tbl := tbl_of (List.mem_of_getElem? (i := 648) (by decide +kernel)) (by decide +kernel)
theorem kw_629 : (Jvm.Cond.superclass "CoastLampsModel" "java/lang/Object") ∈ tbl := tbl_of (List.mem_of_getElem? (i := 675) (by decide +kernel)) (by decide +kernel)
theorem kw_630 : (Jvm.Cond.arrayClass Jvm.ClassFile.FieldType.boolean) ∈ tbl := tbl_of (List.mem_of_getElem? (i := 676) (by decide +kernel)) (by decide +kernel)
theorem kw_631 : (Jvm.Cond.methodLink "CoastLampsLaw" (17 : Nat) ({ cls := "CoastLampsModel", name := "dial", desc := "(II)I" } : Jvm.MethodName)) ∈ tbl := tbl_of (List.mem_of_getElem? (i := 677) (by decide +kernel)) (by decide +kernel)
theorem kw_632 : (Jvm.Cond.instanceMethod ({ cls := "CoastLampsModel", name := "dial", desc := "(II)I" } : Jvm.MethodName)) ∈ tbl := tbl_of (List.mem_of_getElem? (i := 678) (by decide +kernel)) (by decide +kernel)
theorem kw_633 : (Jvm.Cond.selects "CoastLampsModel" ({ cls := "CoastLampsModel", name := "dial", desc := "(II)I" } : Jvm.MethodName) ({ cls := "CoastLampsModel", name := "dial", desc := "(II)I" } : Jvm.MethodName)) ∈ tbl := tbl_of (List.mem_of_getElem? (i := 679) (by decide +kernel)) (by decide +kernel)
theorem kw_634 : (Jvm.Cond.code ({ cls := "CoastLampsModel", name := "dial", desc := "(II)I" } : Jvm.MethodName) prog_14_method_45_code (4 : Nat) (Option.some Jvm.ClassFile.FieldType.int)) ∈ tbl := tbl_of (List.mem_of_getElem? (i := 680) (by decide +kernel)) (by decide +kernel)
theorem kw_635 : (Jvm.Cond.methodLink "CoastLampsModel" (36 : Nat) ({ cls := "CoastLampsModel", name := "in", desc := "(III)Z" } : Jvm.MethodName)) ∈ tbl := tbl_of (List.mem_of_getElem? (i := 681) (by decide +kernel)) (by decide +kernel)
theorem kw_636 : (Jvm.Cond.static ({ cls := "CoastLampsModel", name := "in", desc := "(III)Z" } : Jvm.MethodName)) ∈ tbl := tbl_of (List.mem_of_getElem? (i := 682) (by decide +kernel)) (by decide +kernel)
theorem kw_637 : (Jvm.Cond.code ({ cls := "CoastLampsModel", name := "in", desc := "(III)Z" } : Jvm.MethodName) prog_14_method_3_code (3 : Nat) (Option.some Jvm.ClassFile.FieldType.boolean)) ∈ tbl := tbl_of (List.mem_of_getElem? (i := 683) (by decide +kernel)) (by decide +kernel)
theorem kw_638 : (Jvm.Cond.methodLink "CoastLampsLaw" (21 : Nat) ({ cls := "CoastLampsModel", name := "lamp", desc := "(II)I" } : Jvm.MethodName)) ∈ tbl := tbl_of (List.mem_of_getElem? (i := 684) (by decide +kernel)) (by decide +kernel)
theorem kw_639 : (Jvm.Cond.instanceMethod ({ cls := "CoastLampsModel", name := "lamp", desc := "(II)I" } : Jvm.MethodName)) ∈ tbl := tbl_of (List.mem_of_getElem? (i := 685) (by decide +kernel)) (by decide +kernel)
theorem kw_640 : (Jvm.Cond.selects "CoastLampsModel" ({ cls := "CoastLampsModel", name := "lamp", desc := "(II)I" } : Jvm.MethodName) ({ cls := "CoastLampsModel", name := "lamp", desc := "(II)I" } : Jvm.MethodName)) ∈ tbl := tbl_of (List.mem_of_getElem? (i := 686) (by decide +kernel)) (by decide +kernel)
theorem kw_641 : (Jvm.Cond.code ({ cls := "CoastLampsModel", name := "lamp", desc := "(II)I" } : Jvm.MethodName) prog_14_method_46_code (3 : Nat) (Option.some Jvm.ClassFile.FieldType.int)) ∈ tbl := tbl_of (List.mem_of_getElem? (i := 687) (by decide +kernel)) (by decide +kernel)
theorem kw_642 : (Jvm.Cond.methodLink "CoastLampsLaw" (26 : Nat) ({ cls := "CoastLampsModel", name := "ask", desc := "(III)J" } : Jvm.MethodName)) ∈ tbl := tbl_of (List.mem_of_getElem? (i := 688) (by decide +kernel)) (by decide +kernel)
theorem kw_643 : (Jvm.Cond.instanceMethod ({ cls := "CoastLampsModel", name := "ask", desc := "(III)J" } : Jvm.MethodName)) ∈ tbl := tbl_of (List.mem_of_getElem? (i := 689) (by decide +kernel)) (by decide +kernel)
theorem kw_644 : (Jvm.Cond.selects "CoastLampsModel" ({ cls := "CoastLampsModel", name := "ask", desc := "(III)J" } : Jvm.MethodName) ({ cls := "CoastLampsModel", name := "ask", desc := "(III)J" } : Jvm.MethodName)) ∈ tbl := tbl_of (List.mem_of_getElem? (i := 690) (by decide +kernel)) (by decide +kernel)
theorem kw_645 : (Jvm.Cond.code ({ cls := "CoastLampsModel", name := "ask", desc := "(III)J" } : Jvm.MethodName) prog_14_method_47_code (4 : Nat) (Option.some Jvm.ClassFile.FieldType.long)) ∈ tbl := tbl_of (List.mem_of_getElem? (i := 691) (by decide +kernel)) (by decide +kernel)
theorem kw_646 : (Jvm.Cond.methodLink "CoastLampsModel" (152 : Nat) ({ cls := "CoastLampsModel", name := "isLamp", desc := "(I)Z" } : Jvm.MethodName)) ∈ tbl := tbl_of (List.mem_of_getElem? (i := 692) (by decide +kernel)) (by decide +kernel)
theorem kw_648 : (Jvm.Cond.instanceMethod ({ cls := "CoastLampsModel", name := "isLamp", desc := "(I)Z" } : Jvm.MethodName)) ∈ tbl := tbl_of (List.mem_of_getElem? (i := 694) (by decide +kernel)) (by decide +kernel)
theorem kw_649 : (Jvm.Cond.code ({ cls := "CoastLampsModel", name := "isLamp", desc := "(I)Z" } : Jvm.MethodName) prog_14_method_4_code (2 : Nat) (Option.some Jvm.ClassFile.FieldType.boolean)) ∈ tbl := tbl_of (List.mem_of_getElem? (i := 695) (by decide +kernel)) (by decide +kernel)
theorem kw_650 : (Jvm.Cond.constantLong "CoastLampsModel" (156 : Nat) (-9223372036854775808 : Int64)) ∈ tbl := tbl_of (List.mem_of_getElem? (i := 696) (by decide +kernel)) (by decide +kernel)
theorem kw_651 : (Jvm.Cond.methodLink "CoastLampsModel" (158 : Nat) ({ cls := "CoastLampsModel", name := "act", desc := "()V" } : Jvm.MethodName)) ∈ tbl := tbl_of (List.mem_of_getElem? (i := 697) (by decide +kernel)) (by decide +kernel)
theorem kw_653 : (Jvm.Cond.instanceMethod ({ cls := "CoastLampsModel", name := "act", desc := "()V" } : Jvm.MethodName)) ∈ tbl := tbl_of (List.mem_of_getElem? (i := 699) (by decide +kernel)) (by decide +kernel)
theorem kw_654 : (Jvm.Cond.code ({ cls := "CoastLampsModel", name := "act", desc := "()V" } : Jvm.MethodName) prog_14_method_7_code (1 : Nat) (Option.none : Option Jvm.ClassFile.FieldType)) ∈ tbl := tbl_of (List.mem_of_getElem? (i := 700) (by decide +kernel)) (by decide +kernel)
theorem kw_655 : (Jvm.Cond.methodLink "CoastLampsModel" (161 : Nat) ({ cls := "CoastLampsModel", name := "isHorned", desc := "(I)Z" } : Jvm.MethodName)) ∈ tbl := tbl_of (List.mem_of_getElem? (i := 701) (by decide +kernel)) (by decide +kernel)
theorem kw_657 : (Jvm.Cond.instanceMethod ({ cls := "CoastLampsModel", name := "isHorned", desc := "(I)Z" } : Jvm.MethodName)) ∈ tbl := tbl_of (List.mem_of_getElem? (i := 703) (by decide +kernel)) (by decide +kernel)
theorem kw_658 : (Jvm.Cond.code ({ cls := "CoastLampsModel", name := "isHorned", desc := "(I)Z" } : Jvm.MethodName) prog_14_method_5_code (2 : Nat) (Option.some Jvm.ClassFile.FieldType.boolean)) ∈ tbl := tbl_of (List.mem_of_getElem? (i := 704) (by decide +kernel)) (by decide +kernel)
theorem kw_659 : (Jvm.Cond.constantLong "CoastLampsModel" (164 : Nat) (-9223372036854775807 : Int64)) ∈ tbl := tbl_of (List.mem_of_getElem? (i := 705) (by decide +kernel)) (by decide +kernel)
theorem kw_660 : (Jvm.Cond.methodLink "CoastLampsModel" (166 : Nat) ({ cls := "CoastLampsModel", name := "burn", desc := "(II)I" } : Jvm.MethodName)) ∈ tbl := tbl_of (List.mem_of_getElem? (i := 706) (by decide +kernel)) (by decide +kernel)
theorem kw_662 : (Jvm.Cond.instanceMethod ({ cls := "CoastLampsModel", name := "burn", desc := "(II)I" } : Jvm.MethodName)) ∈ tbl := tbl_of (List.mem_of_getElem? (i := 708) (by decide +kernel)) (by decide +kernel)
theorem kw_663 : (Jvm.Cond.code ({ cls := "CoastLampsModel", name := "burn", desc := "(II)I" } : Jvm.MethodName) prog_14_method_14_code (3 : Nat) (Option.some Jvm.ClassFile.FieldType.int)) ∈ tbl := tbl_of (List.mem_of_getElem? (i := 709) (by decide +kernel)) (by decide +kernel)
theorem kw_664 : (Jvm.Cond.methodLink "CoastLampsModel" (54 : Nat) ({ cls := "CoastLampsModel", name := "burnOil", desc := "(II)I" } : Jvm.MethodName)) ∈ tbl := tbl_of (List.mem_of_getElem? (i := 710) (by decide +kernel)) (by decide +kernel)
theorem kw_666 : (Jvm.Cond.instanceMethod ({ cls := "CoastLampsModel", name := "burnOil", desc := "(II)I" } : Jvm.MethodName)) ∈ tbl := tbl_of (List.mem_of_getElem? (i := 712) (by decide +kernel)) (by decide +kernel)
theorem kw_667 : (Jvm.Cond.code ({ cls := "CoastLampsModel", name := "burnOil", desc := "(II)I" } : Jvm.MethodName) prog_14_method_9_code (4 : Nat) (Option.some Jvm.ClassFile.FieldType.int)) ∈ tbl := tbl_of (List.mem_of_getElem? (i := 713) (by decide +kernel)) (by decide +kernel)
theorem kw_668 : (Jvm.Cond.methodLink "CoastLampsModel" (46 : Nat) ({ cls := "CoastLampsModel", name := "begins", desc := "(I)V" } : Jvm.MethodName)) ∈ tbl := tbl_of (List.mem_of_getElem? (i := 714) (by decide +kernel)) (by decide +kernel)
theorem kw_670 : (Jvm.Cond.instanceMethod ({ cls := "CoastLampsModel", name := "begins", desc := "(I)V" } : Jvm.MethodName)) ∈ tbl := tbl_of (List.mem_of_getElem? (i := 716) (by decide +kernel)) (by decide +kernel)
theorem kw_671 : (Jvm.Cond.code ({ cls := "CoastLampsModel", name := "begins", desc := "(I)V" } : Jvm.MethodName) prog_14_method_6_code (2 : Nat) (Option.none : Option Jvm.ClassFile.FieldType)) ∈ tbl := tbl_of (List.mem_of_getElem? (i := 717) (by decide +kernel)) (by decide +kernel)
theorem kw_672 : (Jvm.Cond.methodLink "CoastLampsModel" (50 : Nat) ({ cls := "CoastLampsModel", name := "burnLamp", desc := "(II)I" } : Jvm.MethodName)) ∈ tbl := tbl_of (List.mem_of_getElem? (i := 718) (by decide +kernel)) (by decide +kernel)
theorem kw_674 : (Jvm.Cond.instanceMethod ({ cls := "CoastLampsModel", name := "burnLamp", desc := "(II)I" } : Jvm.MethodName)) ∈ tbl := tbl_of (List.mem_of_getElem? (i := 720) (by decide +kernel)) (by decide +kernel)
theorem kw_675 : (Jvm.Cond.code ({ cls := "CoastLampsModel", name := "burnLamp", desc := "(II)I" } : Jvm.MethodName) prog_14_method_8_code (3 : Nat) (Option.some Jvm.ClassFile.FieldType.int)) ∈ tbl := tbl_of (List.mem_of_getElem? (i := 721) (by decide +kernel)) (by decide +kernel)
theorem kw_676 : (Jvm.Cond.methodLink "CoastLampsModel" (57 : Nat) ({ cls := "CoastLampsModel", name := "burnTwin", desc := "(II)I" } : Jvm.MethodName)) ∈ tbl := tbl_of (List.mem_of_getElem? (i := 722) (by decide +kernel)) (by decide +kernel)
theorem kw_678 : (Jvm.Cond.instanceMethod ({ cls := "CoastLampsModel", name := "burnTwin", desc := "(II)I" } : Jvm.MethodName)) ∈ tbl := tbl_of (List.mem_of_getElem? (i := 724) (by decide +kernel)) (by decide +kernel)
theorem kw_679 : (Jvm.Cond.code ({ cls := "CoastLampsModel", name := "burnTwin", desc := "(II)I" } : Jvm.MethodName) prog_14_method_10_code (4 : Nat) (Option.some Jvm.ClassFile.FieldType.int)) ∈ tbl := tbl_of (List.mem_of_getElem? (i := 725) (by decide +kernel)) (by decide +kernel)
theorem kw_680 : (Jvm.Cond.methodLink "CoastLampsModel" (63 : Nat) ({ cls := "CoastLampsModel", name := "burnSwing", desc := "(II)I" } : Jvm.MethodName)) ∈ tbl := tbl_of (List.mem_of_getElem? (i := 726) (by decide +kernel)) (by decide +kernel)
theorem kw_682 : (Jvm.Cond.instanceMethod ({ cls := "CoastLampsModel", name := "burnSwing", desc := "(II)I" } : Jvm.MethodName)) ∈ tbl := tbl_of (List.mem_of_getElem? (i := 728) (by decide +kernel)) (by decide +kernel)
theorem kw_683 : (Jvm.Cond.code ({ cls := "CoastLampsModel", name := "burnSwing", desc := "(II)I" } : Jvm.MethodName) prog_14_method_11_code (3 : Nat) (Option.some Jvm.ClassFile.FieldType.int)) ∈ tbl := tbl_of (List.mem_of_getElem? (i := 729) (by decide +kernel)) (by decide +kernel)
theorem kw_684 : (Jvm.Cond.methodLink "CoastLampsModel" (66 : Nat) ({ cls := "CoastLampsModel", name := "burnOuter", desc := "(II)I" } : Jvm.MethodName)) ∈ tbl := tbl_of (List.mem_of_getElem? (i := 730) (by decide +kernel)) (by decide +kernel)
theorem kw_686 : (Jvm.Cond.instanceMethod ({ cls := "CoastLampsModel", name := "burnOuter", desc := "(II)I" } : Jvm.MethodName)) ∈ tbl := tbl_of (List.mem_of_getElem? (i := 732) (by decide +kernel)) (by decide +kernel)
theorem kw_687 : (Jvm.Cond.code ({ cls := "CoastLampsModel", name := "burnOuter", desc := "(II)I" } : Jvm.MethodName) prog_14_method_13_code (4 : Nat) (Option.some Jvm.ClassFile.FieldType.int)) ∈ tbl := tbl_of (List.mem_of_getElem? (i := 733) (by decide +kernel)) (by decide +kernel)
theorem kw_688 : (Jvm.Cond.methodLink "CoastLampsModel" (60 : Nat) ({ cls := "CoastLampsModel", name := "burnFlare", desc := "(II)I" } : Jvm.MethodName)) ∈ tbl := tbl_of (List.mem_of_getElem? (i := 734) (by decide +kernel)) (by decide +kernel)
theorem kw_690 : (Jvm.Cond.instanceMethod ({ cls := "CoastLampsModel", name := "burnFlare", desc := "(II)I" } : Jvm.MethodName)) ∈ tbl := tbl_of (List.mem_of_getElem? (i := 736) (by decide +kernel)) (by decide +kernel)
theorem kw_691 : (Jvm.Cond.code ({ cls := "CoastLampsModel", name := "burnFlare", desc := "(II)I" } : Jvm.MethodName) prog_14_method_12_code (3 : Nat) (Option.some Jvm.ClassFile.FieldType.int)) ∈ tbl := tbl_of (List.mem_of_getElem? (i := 737) (by decide +kernel)) (by decide +kernel)
theorem kw_692 : (Jvm.Cond.methodLink "CoastLampsModel" (149 : Nat) ({ cls := "CoastLampsModel", name := "reach", desc := "(II)I" } : Jvm.MethodName)) ∈ tbl := tbl_of (List.mem_of_getElem? (i := 738) (by decide +kernel)) (by decide +kernel)
theorem kw_694 : (Jvm.Cond.instanceMethod ({ cls := "CoastLampsModel", name := "reach", desc := "(II)I" } : Jvm.MethodName)) ∈ tbl := tbl_of (List.mem_of_getElem? (i := 740) (by decide +kernel)) (by decide +kernel)
theorem kw_695 : (Jvm.Cond.code ({ cls := "CoastLampsModel", name := "reach", desc := "(II)I" } : Jvm.MethodName) prog_14_method_21_code (3 : Nat) (Option.some Jvm.ClassFile.FieldType.int)) ∈ tbl := tbl_of (List.mem_of_getElem? (i := 741) (by decide +kernel)) (by decide +kernel)
theorem kw_696 : (Jvm.Cond.methodLink "CoastLampsModel" (69 : Nat) ({ cls := "CoastLampsModel", name := "reachLamp", desc := "(II)I" } : Jvm.MethodName)) ∈ tbl := tbl_of (List.mem_of_getElem? (i := 742) (by decide +kernel)) (by decide +kernel)
theorem kw_698 : (Jvm.Cond.instanceMethod ({ cls := "CoastLampsModel", name := "reachLamp", desc := "(II)I" } : Jvm.MethodName)) ∈ tbl := tbl_of (List.mem_of_getElem? (i := 744) (by decide +kernel)) (by decide +kernel)
theorem kw_699 : (Jvm.Cond.code ({ cls := "CoastLampsModel", name := "reachLamp", desc := "(II)I" } : Jvm.MethodName) prog_14_method_15_code (3 : Nat) (Option.some Jvm.ClassFile.FieldType.int)) ∈ tbl := tbl_of (List.mem_of_getElem? (i := 745) (by decide +kernel)) (by decide +kernel)
theorem kw_700 : (Jvm.Cond.methodLink "CoastLampsModel" (72 : Nat) ({ cls := "CoastLampsModel", name := "reachRound", desc := "(II)I" } : Jvm.MethodName)) ∈ tbl := tbl_of (List.mem_of_getElem? (i := 746) (by decide +kernel)) (by decide +kernel)
theorem kw_702 : (Jvm.Cond.instanceMethod ({ cls := "CoastLampsModel", name := "reachRound", desc := "(II)I" } : Jvm.MethodName)) ∈ tbl := tbl_of (List.mem_of_getElem? (i := 748) (by decide +kernel)) (by decide +kernel)
theorem kw_703 : (Jvm.Cond.code ({ cls := "CoastLampsModel", name := "reachRound", desc := "(II)I" } : Jvm.MethodName) prog_14_method_16_code (3 : Nat) (Option.some Jvm.ClassFile.FieldType.int)) ∈ tbl := tbl_of (List.mem_of_getElem? (i := 749) (by decide +kernel)) (by decide +kernel)
theorem kw_704 : (Jvm.Cond.methodLink "CoastLampsModel" (75 : Nat) ({ cls := "CoastLampsModel", name := "reachTwin", desc := "(II)I" } : Jvm.MethodName)) ∈ tbl := tbl_of (List.mem_of_getElem? (i := 750) (by decide +kernel)) (by decide +kernel)
theorem kw_706 : (Jvm.Cond.instanceMethod ({ cls := "CoastLampsModel", name := "reachTwin", desc := "(II)I" } : Jvm.MethodName)) ∈ tbl := tbl_of (List.mem_of_getElem? (i := 752) (by decide +kernel)) (by decide +kernel)
theorem kw_707 : (Jvm.Cond.code ({ cls := "CoastLampsModel", name := "reachTwin", desc := "(II)I" } : Jvm.MethodName) prog_14_method_17_code (4 : Nat) (Option.some Jvm.ClassFile.FieldType.int)) ∈ tbl := tbl_of (List.mem_of_getElem? (i := 753) (by decide +kernel)) (by decide +kernel)
theorem kw_708 : (Jvm.Cond.methodLink "CoastLampsModel" (81 : Nat) ({ cls := "CoastLampsModel", name := "reachDrum", desc := "(II)I" } : Jvm.MethodName)) ∈ tbl := tbl_of (List.mem_of_getElem? (i := 754) (by decide +kernel)) (by decide +kernel)
theorem kw_710 : (Jvm.Cond.instanceMethod ({ cls := "CoastLampsModel", name := "reachDrum", desc := "(II)I" } : Jvm.MethodName)) ∈ tbl := tbl_of (List.mem_of_getElem? (i := 756) (by decide +kernel)) (by decide +kernel)
theorem kw_711 : (Jvm.Cond.code ({ cls := "CoastLampsModel", name := "reachDrum", desc := "(II)I" } : Jvm.MethodName) prog_14_method_18_code (4 : Nat) (Option.some Jvm.ClassFile.FieldType.int)) ∈ tbl := tbl_of (List.mem_of_getElem? (i := 757) (by decide +kernel)) (by decide +kernel)
theorem kw_712 : (Jvm.Cond.methodLink "CoastLampsModel" (78 : Nat) ({ cls := "CoastLampsModel", name := "reachGas", desc := "(II)I" } : Jvm.MethodName)) ∈ tbl := tbl_of (List.mem_of_getElem? (i := 758) (by decide +kernel)) (by decide +kernel)
theorem kw_714 : (Jvm.Cond.instanceMethod ({ cls := "CoastLampsModel", name := "reachGas", desc := "(II)I" } : Jvm.MethodName)) ∈ tbl := tbl_of (List.mem_of_getElem? (i := 760) (by decide +kernel)) (by decide +kernel)
theorem kw_715 : (Jvm.Cond.code ({ cls := "CoastLampsModel", name := "reachGas", desc := "(II)I" } : Jvm.MethodName) prog_14_method_19_code (3 : Nat) (Option.some Jvm.ClassFile.FieldType.int)) ∈ tbl := tbl_of (List.mem_of_getElem? (i := 761) (by decide +kernel)) (by decide +kernel)
theorem kw_716 : (Jvm.Cond.methodLink "CoastLampsModel" (84 : Nat) ({ cls := "CoastLampsModel", name := "reachBuoy", desc := "(II)I" } : Jvm.MethodName)) ∈ tbl := tbl_of (List.mem_of_getElem? (i := 762) (by decide +kernel)) (by decide +kernel)
theorem kw_718 : (Jvm.Cond.instanceMethod ({ cls := "CoastLampsModel", name := "reachBuoy", desc := "(II)I" } : Jvm.MethodName)) ∈ tbl := tbl_of (List.mem_of_getElem? (i := 764) (by decide +kernel)) (by decide +kernel)
theorem kw_719 : (Jvm.Cond.code ({ cls := "CoastLampsModel", name := "reachBuoy", desc := "(II)I" } : Jvm.MethodName) prog_14_method_20_code (3 : Nat) (Option.some Jvm.ClassFile.FieldType.int)) ∈ tbl := tbl_of (List.mem_of_getElem? (i := 765) (by decide +kernel)) (by decide +kernel)
theorem kw_720 : (Jvm.Cond.methodLink "CoastLampsModel" (169 : Nat) ({ cls := "CoastLampsModel", name := "flash", desc := "(II)I" } : Jvm.MethodName)) ∈ tbl := tbl_of (List.mem_of_getElem? (i := 766) (by decide +kernel)) (by decide +kernel)
theorem kw_722 : (Jvm.Cond.instanceMethod ({ cls := "CoastLampsModel", name := "flash", desc := "(II)I" } : Jvm.MethodName)) ∈ tbl := tbl_of (List.mem_of_getElem? (i := 768) (by decide +kernel)) (by decide +kernel)
theorem kw_723 : (Jvm.Cond.code ({ cls := "CoastLampsModel", name := "flash", desc := "(II)I" } : Jvm.MethodName) prog_14_method_27_code (3 : Nat) (Option.some Jvm.ClassFile.FieldType.int)) ∈ tbl := tbl_of (List.mem_of_getElem? (i := 769) (by decide +kernel)) (by decide +kernel)
theorem kw_724 : (Jvm.Cond.methodLink "CoastLampsModel" (91 : Nat) ({ cls := "CoastLampsModel", name := "flashTwin", desc := "(I)I" } : Jvm.MethodName)) ∈ tbl := tbl_of (List.mem_of_getElem? (i := 770) (by decide +kernel)) (by decide +kernel)
theorem kw_726 : (Jvm.Cond.instanceMethod ({ cls := "CoastLampsModel", name := "flashTwin", desc := "(I)I" } : Jvm.MethodName)) ∈ tbl := tbl_of (List.mem_of_getElem? (i := 772) (by decide +kernel)) (by decide +kernel)
theorem kw_727 : (Jvm.Cond.code ({ cls := "CoastLampsModel", name := "flashTwin", desc := "(I)I" } : Jvm.MethodName) prog_14_method_23_code (2 : Nat) (Option.some Jvm.ClassFile.FieldType.int)) ∈ tbl := tbl_of (List.mem_of_getElem? (i := 773) (by decide +kernel)) (by decide +kernel)
theorem kw_728 : (Jvm.Cond.methodLink "CoastLampsModel" (87 : Nat) ({ cls := "CoastLampsModel", name := "flashLamp", desc := "()I" } : Jvm.MethodName)) ∈ tbl := tbl_of (List.mem_of_getElem? (i := 774) (by decide +kernel)) (by decide +kernel)
theorem kw_730 : (Jvm.Cond.instanceMethod ({ cls := "CoastLampsModel", name := "flashLamp", desc := "()I" } : Jvm.MethodName)) ∈ tbl := tbl_of (List.mem_of_getElem? (i := 776) (by decide +kernel)) (by decide +kernel)
theorem kw_731 : (Jvm.Cond.code ({ cls := "CoastLampsModel", name := "flashLamp", desc := "()I" } : Jvm.MethodName) prog_14_method_22_code (1 : Nat) (Option.some Jvm.ClassFile.FieldType.int)) ∈ tbl := tbl_of (List.mem_of_getElem? (i := 777) (by decide +kernel)) (by decide +kernel)
theorem kw_732 : (Jvm.Cond.methodLink "CoastLampsModel" (98 : Nat) ({ cls := "CoastLampsModel", name := "flashSwing", desc := "(I)I" } : Jvm.MethodName)) ∈ tbl := tbl_of (List.mem_of_getElem? (i := 778) (by decide +kernel)) (by decide +kernel)
theorem kw_734 : (Jvm.Cond.instanceMethod ({ cls := "CoastLampsModel", name := "flashSwing", desc := "(I)I" } : Jvm.MethodName)) ∈ tbl := tbl_of (List.mem_of_getElem? (i := 780) (by decide +kernel)) (by decide +kernel)
theorem kw_735 : (Jvm.Cond.code ({ cls := "CoastLampsModel", name := "flashSwing", desc := "(I)I" } : Jvm.MethodName) prog_14_method_24_code (2 : Nat) (Option.some Jvm.ClassFile.FieldType.int)) ∈ tbl := tbl_of (List.mem_of_getElem? (i := 781) (by decide +kernel)) (by decide +kernel)
theorem kw_736 : (Jvm.Cond.methodLink "CoastLampsModel" (95 : Nat) ({ cls := "CoastLampsModel", name := "flashFlare", desc := "(I)I" } : Jvm.MethodName)) ∈ tbl := tbl_of (List.mem_of_getElem? (i := 782) (by decide +kernel)) (by decide +kernel)
theorem kw_738 : (Jvm.Cond.instanceMethod ({ cls := "CoastLampsModel", name := "flashFlare", desc := "(I)I" } : Jvm.MethodName)) ∈ tbl := tbl_of (List.mem_of_getElem? (i := 784) (by decide +kernel)) (by decide +kernel)
theorem kw_739 : (Jvm.Cond.code ({ cls := "CoastLampsModel", name := "flashFlare", desc := "(I)I" } : Jvm.MethodName) prog_14_method_25_code (2 : Nat) (Option.some Jvm.ClassFile.FieldType.int)) ∈ tbl := tbl_of (List.mem_of_getElem? (i := 785) (by decide +kernel)) (by decide +kernel)
theorem kw_740 : (Jvm.Cond.methodLink "CoastLampsModel" (101 : Nat) ({ cls := "CoastLampsModel", name := "flashOuter", desc := "(I)I" } : Jvm.MethodName)) ∈ tbl := tbl_of (List.mem_of_getElem? (i := 786) (by decide +kernel)) (by decide +kernel)
theorem kw_742 : (Jvm.Cond.instanceMethod ({ cls := "CoastLampsModel", name := "flashOuter", desc := "(I)I" } : Jvm.MethodName)) ∈ tbl := tbl_of (List.mem_of_getElem? (i := 788) (by decide +kernel)) (by decide +kernel)
theorem kw_743 : (Jvm.Cond.code ({ cls := "CoastLampsModel", name := "flashOuter", desc := "(I)I" } : Jvm.MethodName) prog_14_method_26_code (3 : Nat) (Option.some Jvm.ClassFile.FieldType.int)) ∈ tbl := tbl_of (List.mem_of_getElem? (i := 789) (by decide +kernel)) (by decide +kernel)
theorem kw_744 : (Jvm.Cond.methodLink "CoastLampsModel" (172 : Nat) ({ cls := "CoastLampsModel", name := "tend", desc := "(II)I" } : Jvm.MethodName)) ∈ tbl := tbl_of (List.mem_of_getElem? (i := 790) (by decide +kernel)) (by decide +kernel)
theorem kw_746 : (Jvm.Cond.instanceMethod ({ cls := "CoastLampsModel", name := "tend", desc := "(II)I" } : Jvm.MethodName)) ∈ tbl := tbl_of (List.mem_of_getElem? (i := 792) (by decide +kernel)) (by decide +kernel)
theorem kw_747 : (Jvm.Cond.code ({ cls := "CoastLampsModel", name := "tend", desc := "(II)I" } : Jvm.MethodName) prog_14_method_32_code (3 : Nat) (Option.some Jvm.ClassFile.FieldType.int)) ∈ tbl := tbl_of (List.mem_of_getElem? (i := 793) (by decide +kernel)) (by decide +kernel)
theorem kw_748 : (Jvm.Cond.methodLink "CoastLampsModel" (107 : Nat) ({ cls := "CoastLampsModel", name := "tendRound", desc := "(II)I" } : Jvm.MethodName)) ∈ tbl := tbl_of (List.mem_of_getElem? (i := 794) (by decide +kernel)) (by decide +kernel)
theorem kw_750 : (Jvm.Cond.instanceMethod ({ cls := "CoastLampsModel", name := "tendRound", desc := "(II)I" } : Jvm.MethodName)) ∈ tbl := tbl_of (List.mem_of_getElem? (i := 796) (by decide +kernel)) (by decide +kernel)
theorem kw_751 : (Jvm.Cond.code ({ cls := "CoastLampsModel", name := "tendRound", desc := "(II)I" } : Jvm.MethodName) prog_14_method_29_code (4 : Nat) (Option.some Jvm.ClassFile.FieldType.int)) ∈ tbl := tbl_of (List.mem_of_getElem? (i := 797) (by decide +kernel)) (by decide +kernel)
theorem kw_752 : (Jvm.Cond.methodLink "CoastLampsModel" (104 : Nat) ({ cls := "CoastLampsModel", name := "tendLamp", desc := "(II)I" } : Jvm.MethodName)) ∈ tbl := tbl_of (List.mem_of_getElem? (i := 798) (by decide +kernel)) (by decide +kernel)
theorem kw_754 : (Jvm.Cond.instanceMethod ({ cls := "CoastLampsModel", name := "tendLamp", desc := "(II)I" } : Jvm.MethodName)) ∈ tbl := tbl_of (List.mem_of_getElem? (i := 800) (by decide +kernel)) (by decide +kernel)
theorem kw_755 : (Jvm.Cond.code ({ cls := "CoastLampsModel", name := "tendLamp", desc := "(II)I" } : Jvm.MethodName) prog_14_method_28_code (4 : Nat) (Option.some Jvm.ClassFile.FieldType.int)) ∈ tbl := tbl_of (List.mem_of_getElem? (i := 801) (by decide +kernel)) (by decide +kernel)
theorem kw_756 : (Jvm.Cond.methodLink "CoastLampsModel" (110 : Nat) ({ cls := "CoastLampsModel", name := "tendDrum", desc := "(II)I" } : Jvm.MethodName)) ∈ tbl := tbl_of (List.mem_of_getElem? (i := 802) (by decide +kernel)) (by decide +kernel)
theorem kw_758 : (Jvm.Cond.instanceMethod ({ cls := "CoastLampsModel", name := "tendDrum", desc := "(II)I" } : Jvm.MethodName)) ∈ tbl := tbl_of (List.mem_of_getElem? (i := 804) (by decide +kernel)) (by decide +kernel)
theorem kw_759 : (Jvm.Cond.code ({ cls := "CoastLampsModel", name := "tendDrum", desc := "(II)I" } : Jvm.MethodName) prog_14_method_30_code (3 : Nat) (Option.some Jvm.ClassFile.FieldType.int)) ∈ tbl := tbl_of (List.mem_of_getElem? (i := 805) (by decide +kernel)) (by decide +kernel)
theorem kw_760 : (Jvm.Cond.methodLink "CoastLampsModel" (113 : Nat) ({ cls := "CoastLampsModel", name := "tendBuoy", desc := "(II)I" } : Jvm.MethodName)) ∈ tbl := tbl_of (List.mem_of_getElem? (i := 806) (by decide +kernel)) (by decide +kernel)
theorem kw_762 : (Jvm.Cond.instanceMethod ({ cls := "CoastLampsModel", name := "tendBuoy", desc := "(II)I" } : Jvm.MethodName)) ∈ tbl := tbl_of (List.mem_of_getElem? (i := 808) (by decide +kernel)) (by decide +kernel)
theorem kw_763 : (Jvm.Cond.code ({ cls := "CoastLampsModel", name := "tendBuoy", desc := "(II)I" } : Jvm.MethodName) prog_14_method_31_code (3 : Nat) (Option.some Jvm.ClassFile.FieldType.int)) ∈ tbl := tbl_of (List.mem_of_getElem? (i := 809) (by decide +kernel)) (by decide +kernel)
theorem kw_764 : (Jvm.Cond.methodLink "CoastLampsModel" (137 : Nat) ({ cls := "CoastLampsModel", name := "rank", desc := "(I)I" } : Jvm.MethodName)) ∈ tbl := tbl_of (List.mem_of_getElem? (i := 810) (by decide +kernel)) (by decide +kernel)
theorem kw_766 : (Jvm.Cond.instanceMethod ({ cls := "CoastLampsModel", name := "rank", desc := "(I)I" } : Jvm.MethodName)) ∈ tbl := tbl_of (List.mem_of_getElem? (i := 812) (by decide +kernel)) (by decide +kernel)
theorem kw_767 : (Jvm.Cond.code ({ cls := "CoastLampsModel", name := "rank", desc := "(I)I" } : Jvm.MethodName) prog_14_method_38_code (2 : Nat) (Option.some Jvm.ClassFile.FieldType.int)) ∈ tbl := tbl_of (List.mem_of_getElem? (i := 813) (by decide +kernel)) (by decide +kernel)
theorem kw_768 : (Jvm.Cond.methodLink "CoastLampsModel" (119 : Nat) ({ cls := "CoastLampsModel", name := "rankOil", desc := "(I)I" } : Jvm.MethodName)) ∈ tbl := tbl_of (List.mem_of_getElem? (i := 814) (by decide +kernel)) (by decide +kernel)
theorem kw_770 : (Jvm.Cond.instanceMethod ({ cls := "CoastLampsModel", name := "rankOil", desc := "(I)I" } : Jvm.MethodName)) ∈ tbl := tbl_of (List.mem_of_getElem? (i := 816) (by decide +kernel)) (by decide +kernel)
theorem kw_771 : (Jvm.Cond.code ({ cls := "CoastLampsModel", name := "rankOil", desc := "(I)I" } : Jvm.MethodName) prog_14_method_34_code (2 : Nat) (Option.some Jvm.ClassFile.FieldType.int)) ∈ tbl := tbl_of (List.mem_of_getElem? (i := 817) (by decide +kernel)) (by decide +kernel)
theorem kw_772 : (Jvm.Cond.methodLink "CoastLampsModel" (116 : Nat) ({ cls := "CoastLampsModel", name := "rankLamp", desc := "(I)I" } : Jvm.MethodName)) ∈ tbl := tbl_of (List.mem_of_getElem? (i := 818) (by decide +kernel)) (by decide +kernel)
theorem kw_774 : (Jvm.Cond.instanceMethod ({ cls := "CoastLampsModel", name := "rankLamp", desc := "(I)I" } : Jvm.MethodName)) ∈ tbl := tbl_of (List.mem_of_getElem? (i := 820) (by decide +kernel)) (by decide +kernel)
theorem kw_775 : (Jvm.Cond.code ({ cls := "CoastLampsModel", name := "rankLamp", desc := "(I)I" } : Jvm.MethodName) prog_14_method_33_code (2 : Nat) (Option.some Jvm.ClassFile.FieldType.int)) ∈ tbl := tbl_of (List.mem_of_getElem? (i := 821) (by decide +kernel)) (by decide +kernel)
theorem kw_776 : (Jvm.Cond.methodLink "CoastLampsModel" (125 : Nat) ({ cls := "CoastLampsModel", name := "rankDrum", desc := "(I)I" } : Jvm.MethodName)) ∈ tbl := tbl_of (List.mem_of_getElem? (i := 822) (by decide +kernel)) (by decide +kernel)
theorem kw_778 : (Jvm.Cond.instanceMethod ({ cls := "CoastLampsModel", name := "rankDrum", desc := "(I)I" } : Jvm.MethodName)) ∈ tbl := tbl_of (List.mem_of_getElem? (i := 824) (by decide +kernel)) (by decide +kernel)
theorem kw_779 : (Jvm.Cond.code ({ cls := "CoastLampsModel", name := "rankDrum", desc := "(I)I" } : Jvm.MethodName) prog_14_method_35_code (2 : Nat) (Option.some Jvm.ClassFile.FieldType.int)) ∈ tbl := tbl_of (List.mem_of_getElem? (i := 825) (by decide +kernel)) (by decide +kernel)
theorem kw_780 : (Jvm.Cond.methodLink "CoastLampsModel" (128 : Nat) ({ cls := "CoastLampsModel", name := "rankOuter", desc := "(I)I" } : Jvm.MethodName)) ∈ tbl := tbl_of (List.mem_of_getElem? (i := 826) (by decide +kernel)) (by decide +kernel)
theorem kw_782 : (Jvm.Cond.instanceMethod ({ cls := "CoastLampsModel", name := "rankOuter", desc := "(I)I" } : Jvm.MethodName)) ∈ tbl := tbl_of (List.mem_of_getElem? (i := 828) (by decide +kernel)) (by decide +kernel)
theorem kw_783 : (Jvm.Cond.code ({ cls := "CoastLampsModel", name := "rankOuter", desc := "(I)I" } : Jvm.MethodName) prog_14_method_37_code (2 : Nat) (Option.some Jvm.ClassFile.FieldType.int)) ∈ tbl := tbl_of (List.mem_of_getElem? (i := 829) (by decide +kernel)) (by decide +kernel)
theorem kw_784 : (Jvm.Cond.methodLink "CoastLampsModel" (122 : Nat) ({ cls := "CoastLampsModel", name := "rankFlare", desc := "(I)I" } : Jvm.MethodName)) ∈ tbl := tbl_of (List.mem_of_getElem? (i := 830) (by decide +kernel)) (by decide +kernel)
theorem kw_786 : (Jvm.Cond.instanceMethod ({ cls := "CoastLampsModel", name := "rankFlare", desc := "(I)I" } : Jvm.MethodName)) ∈ tbl := tbl_of (List.mem_of_getElem? (i := 832) (by decide +kernel)) (by decide +kernel)
theorem kw_787 : (Jvm.Cond.code ({ cls := "CoastLampsModel", name := "rankFlare", desc := "(I)I" } : Jvm.MethodName) prog_14_method_36_code (2 : Nat) (Option.some Jvm.ClassFile.FieldType.int)) ∈ tbl := tbl_of (List.mem_of_getElem? (i := 833) (by decide +kernel)) (by decide +kernel)
theorem kw_788 : (Jvm.Cond.methodLink "CoastLampsModel" (175 : Nat) ({ cls := "CoastLampsModel", name := "horn", desc := "(II)I" } : Jvm.MethodName)) ∈ tbl := tbl_of (List.mem_of_getElem? (i := 834) (by decide +kernel)) (by decide +kernel)
theorem kw_790 : (Jvm.Cond.instanceMethod ({ cls := "CoastLampsModel", name := "horn", desc := "(II)I" } : Jvm.MethodName)) ∈ tbl := tbl_of (List.mem_of_getElem? (i := 836) (by decide +kernel)) (by decide +kernel)
theorem kw_791 : (Jvm.Cond.code ({ cls := "CoastLampsModel", name := "horn", desc := "(II)I" } : Jvm.MethodName) prog_14_method_44_code (4 : Nat) (Option.some Jvm.ClassFile.FieldType.int)) ∈ tbl := tbl_of (List.mem_of_getElem? (i := 837) (by decide +kernel)) (by decide +kernel)
theorem kw_792 : (Jvm.Cond.methodLink "CoastLampsModel" (146 : Nat) ({ cls := "CoastLampsModel", name := "tone", desc := "(I)I" } : Jvm.MethodName)) ∈ tbl := tbl_of (List.mem_of_getElem? (i := 838) (by decide +kernel)) (by decide +kernel)
theorem kw_794 : (Jvm.Cond.instanceMethod ({ cls := "CoastLampsModel", name := "tone", desc := "(I)I" } : Jvm.MethodName)) ∈ tbl := tbl_of (List.mem_of_getElem? (i := 840) (by decide +kernel)) (by decide +kernel)
theorem kw_795 : (Jvm.Cond.code ({ cls := "CoastLampsModel", name := "tone", desc := "(I)I" } : Jvm.MethodName) prog_14_method_43_code (2 : Nat) (Option.some Jvm.ClassFile.FieldType.int)) ∈ tbl := tbl_of (List.mem_of_getElem? (i := 841) (by decide +kernel)) (by decide +kernel)
theorem kw_796 : (Jvm.Cond.methodLink "CoastLampsModel" (140 : Nat) ({ cls := "CoastLampsModel", name := "toneDrum", desc := "()I" } : Jvm.MethodName)) ∈ tbl := tbl_of (List.mem_of_getElem? (i := 842) (by decide +kernel)) (by decide +kernel)
theorem kw_798 : (Jvm.Cond.instanceMethod ({ cls := "CoastLampsModel", name := "toneDrum", desc := "()I" } : Jvm.MethodName)) ∈ tbl := tbl_of (List.mem_of_getElem? (i := 844) (by decide +kernel)) (by decide +kernel)
theorem kw_799 : (Jvm.Cond.code ({ cls := "CoastLampsModel", name := "toneDrum", desc := "()I" } : Jvm.MethodName) prog_14_method_40_code (1 : Nat) (Option.some Jvm.ClassFile.FieldType.int)) ∈ tbl := tbl_of (List.mem_of_getElem? (i := 845) (by decide +kernel)) (by decide +kernel)
theorem kw_800 : (Jvm.Cond.methodLink "CoastLampsModel" (131 : Nat) ({ cls := "CoastLampsModel", name := "toneOil", desc := "()I" } : Jvm.MethodName)) ∈ tbl := tbl_of (List.mem_of_getElem? (i := 846) (by decide +kernel)) (by decide +kernel)
theorem kw_802 : (Jvm.Cond.instanceMethod ({ cls := "CoastLampsModel", name := "toneOil", desc := "()I" } : Jvm.MethodName)) ∈ tbl := tbl_of (List.mem_of_getElem? (i := 848) (by decide +kernel)) (by decide +kernel)
theorem kw_803 : (Jvm.Cond.code ({ cls := "CoastLampsModel", name := "toneOil", desc := "()I" } : Jvm.MethodName) prog_14_method_39_code (1 : Nat) (Option.some Jvm.ClassFile.FieldType.int)) ∈ tbl := tbl_of (List.mem_of_getElem? (i := 849) (by decide +kernel)) (by decide +kernel)
theorem kw_804 : (Jvm.Cond.methodLink "CoastLampsModel" (134 : Nat) ({ cls := "CoastLampsModel", name := "toneFlare", desc := "()I" } : Jvm.MethodName)) ∈ tbl := tbl_of (List.mem_of_getElem? (i := 850) (by decide +kernel)) (by decide +kernel)
theorem kw_806 : (Jvm.Cond.instanceMethod ({ cls := "CoastLampsModel", name := "toneFlare", desc := "()I" } : Jvm.MethodName)) ∈ tbl := tbl_of (List.mem_of_getElem? (i := 852) (by decide +kernel)) (by decide +kernel)
theorem kw_807 : (Jvm.Cond.code ({ cls := "CoastLampsModel", name := "toneFlare", desc := "()I" } : Jvm.MethodName) prog_14_method_41_code (1 : Nat) (Option.some Jvm.ClassFile.FieldType.int)) ∈ tbl := tbl_of (List.mem_of_getElem? (i := 853) (by decide +kernel)) (by decide +kernel)
theorem kw_808 : (Jvm.Cond.methodLink "CoastLampsModel" (143 : Nat) ({ cls := "CoastLampsModel", name := "toneOuter", desc := "(I)I" } : Jvm.MethodName)) ∈ tbl := tbl_of (List.mem_of_getElem? (i := 854) (by decide +kernel)) (by decide +kernel)
theorem kw_810 : (Jvm.Cond.instanceMethod ({ cls := "CoastLampsModel", name := "toneOuter", desc := "(I)I" } : Jvm.MethodName)) ∈ tbl := tbl_of (List.mem_of_getElem? (i := 856) (by decide +kernel)) (by decide +kernel)
theorem kw_811 : (Jvm.Cond.code ({ cls := "CoastLampsModel", name := "toneOuter", desc := "(I)I" } : Jvm.MethodName) prog_14_method_42_code (3 : Nat) (Option.some Jvm.ClassFile.FieldType.int)) ∈ tbl := tbl_of (List.mem_of_getElem? (i := 857) (by decide +kernel)) (by decide +kernel)
theorem kw_812 : (Jvm.Cond.methodLink "CoastLampsLaw" (31 : Nat) ({ cls := "CoastLampsModel", name := "trace", desc := "(I)I" } : Jvm.MethodName)) ∈ tbl := tbl_of (List.mem_of_getElem? (i := 858) (by decide +kernel)) (by decide +kernel)
theorem kw_813 : (Jvm.Cond.instanceMethod ({ cls := "CoastLampsModel", name := "trace", desc := "(I)I" } : Jvm.MethodName)) ∈ tbl := tbl_of (List.mem_of_getElem? (i := 859) (by decide +kernel)) (by decide +kernel)
theorem kw_814 : (Jvm.Cond.selects "CoastLampsModel" ({ cls := "CoastLampsModel", name := "trace", desc := "(I)I" } : Jvm.MethodName) ({ cls := "CoastLampsModel", name := "trace", desc := "(I)I" } : Jvm.MethodName)) ∈ tbl := tbl_of (List.mem_of_getElem? (i := 860) (by decide +kernel)) (by decide +kernel)
theorem kw_815 : (Jvm.Cond.code ({ cls := "CoastLampsModel", name := "trace", desc := "(I)I" } : Jvm.MethodName) prog_14_method_48_code (2 : Nat) (Option.some Jvm.ClassFile.FieldType.int)) ∈ tbl := tbl_of (List.mem_of_getElem? (i := 861) (by decide +kernel)) (by decide +kernel)
theorem kw_816 : (Jvm.Cond.methodLink "CoastLampsLaw" (36 : Nat) ({ cls := "CoastLampsModel", name := "haul", desc := "(I)J" } : Jvm.MethodName)) ∈ tbl := tbl_of (List.mem_of_getElem? (i := 862) (by decide +kernel)) (by decide +kernel)
theorem kw_817 : (Jvm.Cond.instanceMethod ({ cls := "CoastLampsModel", name := "haul", desc := "(I)J" } : Jvm.MethodName)) ∈ tbl := tbl_of (List.mem_of_getElem? (i := 863) (by decide +kernel)) (by decide +kernel)
theorem kw_818 : (Jvm.Cond.selects "CoastLampsModel" ({ cls := "CoastLampsModel", name := "haul", desc := "(I)J" } : Jvm.MethodName) ({ cls := "CoastLampsModel", name := "haul", desc := "(I)J" } : Jvm.MethodName)) ∈ tbl := tbl_of (List.mem_of_getElem? (i := 864) (by decide +kernel)) (by decide +kernel)
theorem kw_819 : (Jvm.Cond.code ({ cls := "CoastLampsModel", name := "haul", desc := "(I)J" } : Jvm.MethodName) prog_14_method_49_code (2 : Nat) (Option.some Jvm.ClassFile.FieldType.long)) ∈ tbl := tbl_of (List.mem_of_getElem? (i := 865) (by decide +kernel)) (by decide +kernel)
theorem kw_820 : (Jvm.Cond.constant "CoastLampsModel" (178 : Nat) (100000 : Int32)) ∈ tbl := tbl_of (List.mem_of_getElem? (i := 866) (by decide +kernel)) (by decide +kernel)
theorem kw_821 : (Jvm.Cond.methodLink "CoastLampsLaw" (40 : Nat) ({ cls := "CoastLampsModel", name := "fill", desc := "(II)I" } : Jvm.MethodName)) ∈ tbl := tbl_of (List.mem_of_getElem? (i := 867) (by decide +kernel)) (by decide +kernel)
theorem kw_822 : (Jvm.Cond.instanceMethod ({ cls := "CoastLampsModel", name := "fill", desc := "(II)I" } : Jvm.MethodName)) ∈ tbl := tbl_of (List.mem_of_getElem? (i := 868) (by decide +kernel)) (by decide +kernel)
theorem kw_823 : (Jvm.Cond.selects "CoastLampsModel" ({ cls := "CoastLampsModel", name := "fill", desc := "(II)I" } : Jvm.MethodName) ({ cls := "CoastLampsModel", name := "fill", desc := "(II)I" } : Jvm.MethodName)) ∈ tbl := tbl_of (List.mem_of_getElem? (i := 869) (by decide +kernel)) (by decide +kernel)
theorem kw_824 : (Jvm.Cond.code ({ cls := "CoastLampsModel", name := "fill", desc := "(II)I" } : Jvm.MethodName) prog_14_method_50_code (3 : Nat) (Option.some Jvm.ClassFile.FieldType.int)) ∈ tbl := tbl_of (List.mem_of_getElem? (i := 870) (by decide +kernel)) (by decide +kernel)
theorem kw_825 : (Jvm.Cond.constant "CoastLampsModel" (183 : Nat) (1000000 : Int32)) ∈ tbl := tbl_of (List.mem_of_getElem? (i := 871) (by decide +kernel)) (by decide +kernel)
theorem kw_826 : (Jvm.Cond.methodLink "CoastLampsLaw" (45 : Nat) ({ cls := "CoastLampsModel", name := "light", desc := "(IZ)I" } : Jvm.MethodName)) ∈ tbl := tbl_of (List.mem_of_getElem? (i := 872) (by decide +kernel)) (by decide +kernel)
theorem kw_827 : (Jvm.Cond.instanceMethod ({ cls := "CoastLampsModel", name := "light", desc := "(IZ)I" } : Jvm.MethodName)) ∈ tbl := tbl_of (List.mem_of_getElem? (i := 873) (by decide +kernel)) (by decide +kernel)
theorem kw_828 : (Jvm.Cond.selects "CoastLampsModel" ({ cls := "CoastLampsModel", name := "light", desc := "(IZ)I" } : Jvm.MethodName) ({ cls := "CoastLampsModel", name := "light", desc := "(IZ)I" } : Jvm.MethodName)) ∈ tbl := tbl_of (List.mem_of_getElem? (i := 874) (by decide +kernel)) (by decide +kernel)
theorem kw_829 : (Jvm.Cond.code ({ cls := "CoastLampsModel", name := "light", desc := "(IZ)I" } : Jvm.MethodName) prog_14_method_51_code (3 : Nat) (Option.some Jvm.ClassFile.FieldType.int)) ∈ tbl := tbl_of (List.mem_of_getElem? (i := 875) (by decide +kernel)) (by decide +kernel)
theorem kw_830 : (Jvm.Cond.methodLink "CoastLampsLaw" (49 : Nat) ({ cls := "CoastLampsModel", name := "night", desc := "(I)I" } : Jvm.MethodName)) ∈ tbl := tbl_of (List.mem_of_getElem? (i := 876) (by decide +kernel)) (by decide +kernel)
theorem kw_831 : (Jvm.Cond.instanceMethod ({ cls := "CoastLampsModel", name := "night", desc := "(I)I" } : Jvm.MethodName)) ∈ tbl := tbl_of (List.mem_of_getElem? (i := 877) (by decide +kernel)) (by decide +kernel)
theorem kw_832 : (Jvm.Cond.selects "CoastLampsModel" ({ cls := "CoastLampsModel", name := "night", desc := "(I)I" } : Jvm.MethodName) ({ cls := "CoastLampsModel", name := "night", desc := "(I)I" } : Jvm.MethodName)) ∈ tbl := tbl_of (List.mem_of_getElem? (i := 878) (by decide +kernel)) (by decide +kernel)
theorem kw_833 : (Jvm.Cond.code ({ cls := "CoastLampsModel", name := "night", desc := "(I)I" } : Jvm.MethodName) prog_14_method_53_code (5 : Nat) (Option.some Jvm.ClassFile.FieldType.int)) ∈ tbl := tbl_of (List.mem_of_getElem? (i := 879) (by decide +kernel)) (by decide +kernel)
theorem kw_834 : (Jvm.Cond.methodLink "CoastLampsModel" (187 : Nat) ({ cls := "CoastLampsModel", name := "isAnyLit", desc := "()Z" } : Jvm.MethodName)) ∈ tbl := tbl_of (List.mem_of_getElem? (i := 880) (by decide +kernel)) (by decide +kernel)
theorem kw_836 : (Jvm.Cond.instanceMethod ({ cls := "CoastLampsModel", name := "isAnyLit", desc := "()Z" } : Jvm.MethodName)) ∈ tbl := tbl_of (List.mem_of_getElem? (i := 882) (by decide +kernel)) (by decide +kernel)
theorem kw_837 : (Jvm.Cond.code ({ cls := "CoastLampsModel", name := "isAnyLit", desc := "()Z" } : Jvm.MethodName) prog_14_method_52_code (3 : Nat) (Option.some Jvm.ClassFile.FieldType.boolean)) ∈ tbl := tbl_of (List.mem_of_getElem? (i := 883) (by decide +kernel)) (by decide +kernel)
theorem kw_838 : (Jvm.Cond.methodLink "CoastLampsLaw" (53 : Nat) ({ cls := "CoastLampsModel", name := "seen", desc := "(I)I" } : Jvm.MethodName)) ∈ tbl := tbl_of (List.mem_of_getElem? (i := 884) (by decide +kernel)) (by decide +kernel)
theorem kw_839 : (Jvm.Cond.instanceMethod ({ cls := "CoastLampsModel", name := "seen", desc := "(I)I" } : Jvm.MethodName)) ∈ tbl := tbl_of (List.mem_of_getElem? (i := 885) (by decide +kernel)) (by decide +kernel)
theorem kw_840 : (Jvm.Cond.selects "CoastLampsModel" ({ cls := "CoastLampsModel", name := "seen", desc := "(I)I" } : Jvm.MethodName) ({ cls := "CoastLampsModel", name := "seen", desc := "(I)I" } : Jvm.MethodName)) ∈ tbl := tbl_of (List.mem_of_getElem? (i := 886) (by decide +kernel)) (by decide +kernel)
theorem kw_841 : (Jvm.Cond.code ({ cls := "CoastLampsModel", name := "seen", desc := "(I)I" } : Jvm.MethodName) prog_14_method_54_code (6 : Nat) (Option.some Jvm.ClassFile.FieldType.int)) ∈ tbl := tbl_of (List.mem_of_getElem? (i := 887) (by decide +kernel)) (by decide +kernel)
theorem kw_842 : (Jvm.Cond.methodLink "CoastLampsLaw" (57 : Nat) ({ cls := "CoastLampsModel", name := "blow", desc := "(II)I" } : Jvm.MethodName)) ∈ tbl := tbl_of (List.mem_of_getElem? (i := 888) (by decide +kernel)) (by decide +kernel)
theorem kw_843 : (Jvm.Cond.instanceMethod ({ cls := "CoastLampsModel", name := "blow", desc := "(II)I" } : Jvm.MethodName)) ∈ tbl := tbl_of (List.mem_of_getElem? (i := 889) (by decide +kernel)) (by decide +kernel)
theorem kw_844 : (Jvm.Cond.selects "CoastLampsModel" ({ cls := "CoastLampsModel", name := "blow", desc := "(II)I" } : Jvm.MethodName) ({ cls := "CoastLampsModel", name := "blow", desc := "(II)I" } : Jvm.MethodName)) ∈ tbl := tbl_of (List.mem_of_getElem? (i := 890) (by decide +kernel)) (by decide +kernel)
theorem kw_845 : (Jvm.Cond.code ({ cls := "CoastLampsModel", name := "blow", desc := "(II)I" } : Jvm.MethodName) prog_14_method_55_code (3 : Nat) (Option.some Jvm.ClassFile.FieldType.int)) ∈ tbl := tbl_of (List.mem_of_getElem? (i := 891) (by decide +kernel)) (by decide +kernel)
theorem kw_846 : (Jvm.Cond.methodLink "CoastLampsLaw" (62 : Nat) ({ cls := "CoastLampsModel", name := "blown", desc := "()I" } : Jvm.MethodName)) ∈ tbl := tbl_of (List.mem_of_getElem? (i := 892) (by decide +kernel)) (by decide +kernel)
theorem kw_847 : (Jvm.Cond.instanceMethod ({ cls := "CoastLampsModel", name := "blown", desc := "()I" } : Jvm.MethodName)) ∈ tbl := tbl_of (List.mem_of_getElem? (i := 893) (by decide +kernel)) (by decide +kernel)
theorem kw_848 : (Jvm.Cond.selects "CoastLampsModel" ({ cls := "CoastLampsModel", name := "blown", desc := "()I" } : Jvm.MethodName) ({ cls := "CoastLampsModel", name := "blown", desc := "()I" } : Jvm.MethodName)) ∈ tbl := tbl_of (List.mem_of_getElem? (i := 894) (by decide +kernel)) (by decide +kernel)
theorem kw_849 : (Jvm.Cond.code ({ cls := "CoastLampsModel", name := "blown", desc := "()I" } : Jvm.MethodName) prog_14_method_56_code (1 : Nat) (Option.some Jvm.ClassFile.FieldType.int)) ∈ tbl := tbl_of (List.mem_of_getElem? (i := 895) (by decide +kernel)) (by decide +kernel)
theorem kw_850 : (Jvm.Cond.methodLink "CoastLampsLaw" (67 : Nat) ({ cls := "CoastLampsModel", name := "told", desc := "(II)J" } : Jvm.MethodName)) ∈ tbl := tbl_of (List.mem_of_getElem? (i := 896) (by decide +kernel)) (by decide +kernel)
theorem kw_851 : (Jvm.Cond.instanceMethod ({ cls := "CoastLampsModel", name := "told", desc := "(II)J" } : Jvm.MethodName)) ∈ tbl := tbl_of (List.mem_of_getElem? (i := 897) (by decide +kernel)) (by decide +kernel)
theorem kw_852 : (Jvm.Cond.selects "CoastLampsModel" ({ cls := "CoastLampsModel", name := "told", desc := "(II)J" } : Jvm.MethodName) ({ cls := "CoastLampsModel", name := "told", desc := "(II)J" } : Jvm.MethodName)) ∈ tbl := tbl_of (List.mem_of_getElem? (i := 898) (by decide +kernel)) (by decide +kernel)
theorem kw_853 : (Jvm.Cond.code ({ cls := "CoastLampsModel", name := "told", desc := "(II)J" } : Jvm.MethodName) prog_14_method_57_code (3 : Nat) (Option.some Jvm.ClassFile.FieldType.long)) ∈ tbl := tbl_of (List.mem_of_getElem? (i := 899) (by decide +kernel)) (by decide +kernel)
theorem kw_854 : (Jvm.Cond.methodLink "CoastLampsLaw" (71 : Nat) ({ cls := "CoastLampsModel", name := "count", desc := "(I)I" } : Jvm.MethodName)) ∈ tbl := tbl_of (List.mem_of_getElem? (i := 900) (by decide +kernel)) (by decide +kernel)
theorem kw_855 : (Jvm.Cond.instanceMethod ({ cls := "CoastLampsModel", name := "count", desc := "(I)I" } : Jvm.MethodName)) ∈ tbl := tbl_of (List.mem_of_getElem? (i := 901) (by decide +kernel)) (by decide +kernel)
theorem kw_856 : (Jvm.Cond.selects "CoastLampsModel" ({ cls := "CoastLampsModel", name := "count", desc := "(I)I" } : Jvm.MethodName) ({ cls := "CoastLampsModel", name := "count", desc := "(I)I" } : Jvm.MethodName)) ∈ tbl := tbl_of (List.mem_of_getElem? (i := 902) (by decide +kernel)) (by decide +kernel)
theorem kw_857 : (Jvm.Cond.code ({ cls := "CoastLampsModel", name := "count", desc := "(I)I" } : Jvm.MethodName) prog_14_method_58_code (2 : Nat) (Option.some Jvm.ClassFile.FieldType.int)) ∈ tbl := tbl_of (List.mem_of_getElem? (i := 903) (by decide +kernel)) (by decide +kernel)
theorem kw_858 : (Jvm.Cond.methodLink "CoastLampsLaw" (76 : Nat) ({ cls := "CoastLampsModel", name := "store", desc := "()J" } : Jvm.MethodName)) ∈ tbl := tbl_of (List.mem_of_getElem? (i := 904) (by decide +kernel)) (by decide +kernel)
theorem kw_859 : (Jvm.Cond.instanceMethod ({ cls := "CoastLampsModel", name := "store", desc := "()J" } : Jvm.MethodName)) ∈ tbl := tbl_of (List.mem_of_getElem? (i := 905) (by decide +kernel)) (by decide +kernel)
theorem kw_860 : (Jvm.Cond.selects "CoastLampsModel" ({ cls := "CoastLampsModel", name := "store", desc := "()J" } : Jvm.MethodName) ({ cls := "CoastLampsModel", name := "store", desc := "()J" } : Jvm.MethodName)) ∈ tbl := tbl_of (List.mem_of_getElem? (i := 906) (by decide +kernel)) (by decide +kernel)
theorem kw_861 : (Jvm.Cond.code ({ cls := "CoastLampsModel", name := "store", desc := "()J" } : Jvm.MethodName) prog_14_method_59_code (1 : Nat) (Option.some Jvm.ClassFile.FieldType.long)) ∈ tbl := tbl_of (List.mem_of_getElem? (i := 907) (by decide +kernel)) (by decide +kernel)
theorem kw_862 : (Jvm.Cond.sameMethod "CoastLamps$Twin" "CoastLamps$Twin" "reach" "(I)I") ∈ tbl := tbl_of (List.mem_of_getElem? (i := 908) (by decide +kernel)) (by decide +kernel)
theorem kw_863 : (Jvm.Cond.sameMethod "CoastLamps$Round" "CoastLamps$Round" "reach" "(I)I") ∈ tbl := tbl_of (List.mem_of_getElem? (i := 909) (by decide +kernel)) (by decide +kernel)
theorem kw_864 : (Jvm.Cond.selects "CoastLamps$Outer" ({ cls := "CoastLamps$Outer", name := "rank", desc := "()I" } : Jvm.MethodName) ({ cls := "CoastLamps$Outer", name := "rank", desc := "()I" } : Jvm.MethodName)) ∈ tbl := tbl_of (List.mem_of_getElem? (i := 910) (by decide +kernel)) (by decide +kernel)
theorem kw_865 : (Jvm.Cond.castable "CoastLamps$Buoy" "CoastLamps$Lamp") ∈ lw_tbl := List.mem_of_getElem? (i := 911) (by decide +kernel)
theorem kw_866 : (Jvm.Cond.castable "CoastLamps$Drum" "CoastLamps$Lamp") ∈ lw_tbl := List.mem_of_getElem? (i := 912) (by decide +kernel)
theorem kw_867 : (Jvm.Cond.castable "CoastLamps$Flare" "CoastLamps$Lamp") ∈ lw_tbl := List.mem_of_getElem? (i := 913) (by decide +kernel)
theorem kw_868 : (Jvm.Cond.castable "CoastLamps$Gas" "CoastLamps$Lamp") ∈ lw_tbl := List.mem_of_getElem? (i := 914) (by decide +kernel)
theorem kw_869 : (Jvm.Cond.castable "CoastLamps$Oil" "CoastLamps$Lamp") ∈ lw_tbl := List.mem_of_getElem? (i := 915) (by decide +kernel)
theorem kw_870 : (Jvm.Cond.castable "CoastLamps$Outer" "CoastLamps$Lamp") ∈ lw_tbl := List.mem_of_getElem? (i := 916) (by decide +kernel)
theorem kw_871 : (Jvm.Cond.castable "CoastLamps$Round" "CoastLamps$Lamp") ∈ lw_tbl := List.mem_of_getElem? (i := 917) (by decide +kernel)
theorem kw_872 : (Jvm.Cond.castable "CoastLamps$Swing" "CoastLamps$Lamp") ∈ lw_tbl := List.mem_of_getElem? (i := 918) (by decide +kernel)
theorem kw_873 : (Jvm.Cond.castable "CoastLamps$Twin" "CoastLamps$Lamp") ∈ lw_tbl := List.mem_of_getElem? (i := 919) (by decide +kernel)
theorem ks_0 : Cond.selects "CoastLamps" (⟨"CoastLamps", "made", "(II)LCoastLamps$Lamp;"⟩ : MethodName) (⟨"CoastLamps", "made", "(II)LCoastLamps$Lamp;"⟩ : MethodName) ∈ tbl := tbl_of (List.mem_of_getElem? (i := 0) (by decide +kernel)) (by decide +kernel)
theorem ks_1 : Cond.selects "CoastLamps" (⟨"CoastLamps", "lampAt", "(I)LCoastLamps$Lamp;"⟩ : MethodName) (⟨"CoastLamps", "lampAt", "(I)LCoastLamps$Lamp;"⟩ : MethodName) ∈ tbl := tbl_of (List.mem_of_getElem? (i := 1) (by decide +kernel)) (by decide +kernel)
theorem ks_2 : Cond.selects "CoastLamps" (⟨"CoastLamps", "beginAct", "()V"⟩ : MethodName) (⟨"CoastLamps", "beginAct", "()V"⟩ : MethodName) ∈ tbl := tbl_of (List.mem_of_getElem? (i := 2) (by decide +kernel)) (by decide +kernel)
theorem ks_3 : Cond.selects "CoastLamps" (⟨"CoastLamps", "anyLit", "()Z"⟩ : MethodName) (⟨"CoastLamps", "anyLit", "()Z"⟩ : MethodName) ∈ tbl := tbl_of (List.mem_of_getElem? (i := 3) (by decide +kernel)) (by decide +kernel)
theorem ks_4 : Cond.selects "CoastLampsModel" (⟨"CoastLampsModel", "isLamp", "(I)Z"⟩ : MethodName) (⟨"CoastLampsModel", "isLamp", "(I)Z"⟩ : MethodName) ∈ tbl := tbl_of (List.mem_of_getElem? (i := 4) (by decide +kernel)) (by decide +kernel)
theorem ks_5 : Cond.selects "CoastLampsModel" (⟨"CoastLampsModel", "act", "()V"⟩ : MethodName) (⟨"CoastLampsModel", "act", "()V"⟩ : MethodName) ∈ tbl := tbl_of (List.mem_of_getElem? (i := 5) (by decide +kernel)) (by decide +kernel)
theorem ks_6 : Cond.selects "CoastLampsModel" (⟨"CoastLampsModel", "isHorned", "(I)Z"⟩ : MethodName) (⟨"CoastLampsModel", "isHorned", "(I)Z"⟩ : MethodName) ∈ tbl := tbl_of (List.mem_of_getElem? (i := 6) (by decide +kernel)) (by decide +kernel)
theorem ks_7 : Cond.selects "CoastLampsModel" (⟨"CoastLampsModel", "burn", "(II)I"⟩ : MethodName) (⟨"CoastLampsModel", "burn", "(II)I"⟩ : MethodName) ∈ tbl := tbl_of (List.mem_of_getElem? (i := 7) (by decide +kernel)) (by decide +kernel)
theorem ks_8 : Cond.selects "CoastLampsModel" (⟨"CoastLampsModel", "burnOil", "(II)I"⟩ : MethodName) (⟨"CoastLampsModel", "burnOil", "(II)I"⟩ : MethodName) ∈ tbl := tbl_of (List.mem_of_getElem? (i := 8) (by decide +kernel)) (by decide +kernel)
theorem ks_9 : Cond.selects "CoastLampsModel" (⟨"CoastLampsModel", "begins", "(I)V"⟩ : MethodName) (⟨"CoastLampsModel", "begins", "(I)V"⟩ : MethodName) ∈ tbl := tbl_of (List.mem_of_getElem? (i := 9) (by decide +kernel)) (by decide +kernel)
theorem ks_10 : Cond.selects "CoastLampsModel" (⟨"CoastLampsModel", "burnLamp", "(II)I"⟩ : MethodName) (⟨"CoastLampsModel", "burnLamp", "(II)I"⟩ : MethodName) ∈ tbl := tbl_of (List.mem_of_getElem? (i := 10) (by decide +kernel)) (by decide +kernel)
theorem ks_11 : Cond.selects "CoastLampsModel" (⟨"CoastLampsModel", "burnTwin", "(II)I"⟩ : MethodName) (⟨"CoastLampsModel", "burnTwin", "(II)I"⟩ : MethodName) ∈ tbl := tbl_of (List.mem_of_getElem? (i := 11) (by decide +kernel)) (by decide +kernel)
theorem ks_12 : Cond.selects "CoastLampsModel" (⟨"CoastLampsModel", "burnSwing", "(II)I"⟩ : MethodName) (⟨"CoastLampsModel", "burnSwing", "(II)I"⟩ : MethodName) ∈ tbl := tbl_of (List.mem_of_getElem? (i := 12) (by decide +kernel)) (by decide +kernel)
theorem ks_13 : Cond.selects "CoastLampsModel" (⟨"CoastLampsModel", "burnOuter", "(II)I"⟩ : MethodName) (⟨"CoastLampsModel", "burnOuter", "(II)I"⟩ : MethodName) ∈ tbl := tbl_of (List.mem_of_getElem? (i := 13) (by decide +kernel)) (by decide +kernel)
theorem ks_14 : Cond.selects "CoastLampsModel" (⟨"CoastLampsModel", "burnFlare", "(II)I"⟩ : MethodName) (⟨"CoastLampsModel", "burnFlare", "(II)I"⟩ : MethodName) ∈ tbl := tbl_of (List.mem_of_getElem? (i := 14) (by decide +kernel)) (by decide +kernel)
theorem ks_15 : Cond.selects "CoastLampsModel" (⟨"CoastLampsModel", "reach", "(II)I"⟩ : MethodName) (⟨"CoastLampsModel", "reach", "(II)I"⟩ : MethodName) ∈ tbl := tbl_of (List.mem_of_getElem? (i := 15) (by decide +kernel)) (by decide +kernel)
theorem ks_16 : Cond.selects "CoastLampsModel" (⟨"CoastLampsModel", "reachLamp", "(II)I"⟩ : MethodName) (⟨"CoastLampsModel", "reachLamp", "(II)I"⟩ : MethodName) ∈ tbl := tbl_of (List.mem_of_getElem? (i := 16) (by decide +kernel)) (by decide +kernel)
theorem ks_17 : Cond.selects "CoastLampsModel" (⟨"CoastLampsModel", "reachRound", "(II)I"⟩ : MethodName) (⟨"CoastLampsModel", "reachRound", "(II)I"⟩ : MethodName) ∈ tbl := tbl_of (List.mem_of_getElem? (i := 17) (by decide +kernel)) (by decide +kernel)
theorem ks_18 : Cond.selects "CoastLampsModel" (⟨"CoastLampsModel", "reachTwin", "(II)I"⟩ : MethodName) (⟨"CoastLampsModel", "reachTwin", "(II)I"⟩ : MethodName) ∈ tbl := tbl_of (List.mem_of_getElem? (i := 18) (by decide +kernel)) (by decide +kernel)
theorem ks_19 : Cond.selects "CoastLampsModel" (⟨"CoastLampsModel", "reachDrum", "(II)I"⟩ : MethodName) (⟨"CoastLampsModel", "reachDrum", "(II)I"⟩ : MethodName) ∈ tbl := tbl_of (List.mem_of_getElem? (i := 19) (by decide +kernel)) (by decide +kernel)
theorem ks_20 : Cond.selects "CoastLampsModel" (⟨"CoastLampsModel", "reachGas", "(II)I"⟩ : MethodName) (⟨"CoastLampsModel", "reachGas", "(II)I"⟩ : MethodName) ∈ tbl := tbl_of (List.mem_of_getElem? (i := 20) (by decide +kernel)) (by decide +kernel)
theorem ks_21 : Cond.selects "CoastLampsModel" (⟨"CoastLampsModel", "reachBuoy", "(II)I"⟩ : MethodName) (⟨"CoastLampsModel", "reachBuoy", "(II)I"⟩ : MethodName) ∈ tbl := tbl_of (List.mem_of_getElem? (i := 21) (by decide +kernel)) (by decide +kernel)
theorem ks_22 : Cond.selects "CoastLampsModel" (⟨"CoastLampsModel", "flash", "(II)I"⟩ : MethodName) (⟨"CoastLampsModel", "flash", "(II)I"⟩ : MethodName) ∈ tbl := tbl_of (List.mem_of_getElem? (i := 22) (by decide +kernel)) (by decide +kernel)
theorem ks_23 : Cond.selects "CoastLampsModel" (⟨"CoastLampsModel", "flashTwin", "(I)I"⟩ : MethodName) (⟨"CoastLampsModel", "flashTwin", "(I)I"⟩ : MethodName) ∈ tbl := tbl_of (List.mem_of_getElem? (i := 23) (by decide +kernel)) (by decide +kernel)
theorem ks_24 : Cond.selects "CoastLampsModel" (⟨"CoastLampsModel", "flashLamp", "()I"⟩ : MethodName) (⟨"CoastLampsModel", "flashLamp", "()I"⟩ : MethodName) ∈ tbl := tbl_of (List.mem_of_getElem? (i := 24) (by decide +kernel)) (by decide +kernel)
theorem ks_25 : Cond.selects "CoastLampsModel" (⟨"CoastLampsModel", "flashSwing", "(I)I"⟩ : MethodName) (⟨"CoastLampsModel", "flashSwing", "(I)I"⟩ : MethodName) ∈ tbl := tbl_of (List.mem_of_getElem? (i := 25) (by decide +kernel)) (by decide +kernel)
theorem ks_26 : Cond.selects "CoastLampsModel" (⟨"CoastLampsModel", "flashFlare", "(I)I"⟩ : MethodName) (⟨"CoastLampsModel", "flashFlare", "(I)I"⟩ : MethodName) ∈ tbl := tbl_of (List.mem_of_getElem? (i := 26) (by decide +kernel)) (by decide +kernel)
theorem ks_27 : Cond.selects "CoastLampsModel" (⟨"CoastLampsModel", "flashOuter", "(I)I"⟩ : MethodName) (⟨"CoastLampsModel", "flashOuter", "(I)I"⟩ : MethodName) ∈ tbl := tbl_of (List.mem_of_getElem? (i := 27) (by decide +kernel)) (by decide +kernel)
theorem ks_28 : Cond.selects "CoastLampsModel" (⟨"CoastLampsModel", "tend", "(II)I"⟩ : MethodName) (⟨"CoastLampsModel", "tend", "(II)I"⟩ : MethodName) ∈ tbl := tbl_of (List.mem_of_getElem? (i := 28) (by decide +kernel)) (by decide +kernel)
theorem ks_29 : Cond.selects "CoastLampsModel" (⟨"CoastLampsModel", "tendRound", "(II)I"⟩ : MethodName) (⟨"CoastLampsModel", "tendRound", "(II)I"⟩ : MethodName) ∈ tbl := tbl_of (List.mem_of_getElem? (i := 29) (by decide +kernel)) (by decide +kernel)
theorem ks_30 : Cond.selects "CoastLampsModel" (⟨"CoastLampsModel", "tendLamp", "(II)I"⟩ : MethodName) (⟨"CoastLampsModel", "tendLamp", "(II)I"⟩ : MethodName) ∈ tbl := tbl_of (List.mem_of_getElem? (i := 30) (by decide +kernel)) (by decide +kernel)
theorem ks_31 : Cond.selects "CoastLampsModel" (⟨"CoastLampsModel", "tendDrum", "(II)I"⟩ : MethodName) (⟨"CoastLampsModel", "tendDrum", "(II)I"⟩ : MethodName) ∈ tbl := tbl_of (List.mem_of_getElem? (i := 31) (by decide +kernel)) (by decide +kernel)
theorem ks_32 : Cond.selects "CoastLampsModel" (⟨"CoastLampsModel", "tendBuoy", "(II)I"⟩ : MethodName) (⟨"CoastLampsModel", "tendBuoy", "(II)I"⟩ : MethodName) ∈ tbl := tbl_of (List.mem_of_getElem? (i := 32) (by decide +kernel)) (by decide +kernel)
theorem ks_33 : Cond.selects "CoastLampsModel" (⟨"CoastLampsModel", "rank", "(I)I"⟩ : MethodName) (⟨"CoastLampsModel", "rank", "(I)I"⟩ : MethodName) ∈ tbl := tbl_of (List.mem_of_getElem? (i := 33) (by decide +kernel)) (by decide +kernel)
theorem ks_34 : Cond.selects "CoastLampsModel" (⟨"CoastLampsModel", "rankOil", "(I)I"⟩ : MethodName) (⟨"CoastLampsModel", "rankOil", "(I)I"⟩ : MethodName) ∈ tbl := tbl_of (List.mem_of_getElem? (i := 34) (by decide +kernel)) (by decide +kernel)
theorem ks_35 : Cond.selects "CoastLampsModel" (⟨"CoastLampsModel", "rankLamp", "(I)I"⟩ : MethodName) (⟨"CoastLampsModel", "rankLamp", "(I)I"⟩ : MethodName) ∈ tbl := tbl_of (List.mem_of_getElem? (i := 35) (by decide +kernel)) (by decide +kernel)
theorem ks_36 : Cond.selects "CoastLampsModel" (⟨"CoastLampsModel", "rankDrum", "(I)I"⟩ : MethodName) (⟨"CoastLampsModel", "rankDrum", "(I)I"⟩ : MethodName) ∈ tbl := tbl_of (List.mem_of_getElem? (i := 36) (by decide +kernel)) (by decide +kernel)
theorem ks_37 : Cond.selects "CoastLampsModel" (⟨"CoastLampsModel", "rankOuter", "(I)I"⟩ : MethodName) (⟨"CoastLampsModel", "rankOuter", "(I)I"⟩ : MethodName) ∈ tbl := tbl_of (List.mem_of_getElem? (i := 37) (by decide +kernel)) (by decide +kernel)
theorem ks_38 : Cond.selects "CoastLampsModel" (⟨"CoastLampsModel", "rankFlare", "(I)I"⟩ : MethodName) (⟨"CoastLampsModel", "rankFlare", "(I)I"⟩ : MethodName) ∈ tbl := tbl_of (List.mem_of_getElem? (i := 38) (by decide +kernel)) (by decide +kernel)
theorem ks_39 : Cond.selects "CoastLampsModel" (⟨"CoastLampsModel", "horn", "(II)I"⟩ : MethodName) (⟨"CoastLampsModel", "horn", "(II)I"⟩ : MethodName) ∈ tbl := tbl_of (List.mem_of_getElem? (i := 39) (by decide +kernel)) (by decide +kernel)
theorem ks_40 : Cond.selects "CoastLampsModel" (⟨"CoastLampsModel", "tone", "(I)I"⟩ : MethodName) (⟨"CoastLampsModel", "tone", "(I)I"⟩ : MethodName) ∈ tbl := tbl_of (List.mem_of_getElem? (i := 40) (by decide +kernel)) (by decide +kernel)
theorem ks_41 : Cond.selects "CoastLampsModel" (⟨"CoastLampsModel", "toneDrum", "()I"⟩ : MethodName) (⟨"CoastLampsModel", "toneDrum", "()I"⟩ : MethodName) ∈ tbl := tbl_of (List.mem_of_getElem? (i := 41) (by decide +kernel)) (by decide +kernel)
theorem ks_42 : Cond.selects "CoastLampsModel" (⟨"CoastLampsModel", "toneOil", "()I"⟩ : MethodName) (⟨"CoastLampsModel", "toneOil", "()I"⟩ : MethodName) ∈ tbl := tbl_of (List.mem_of_getElem? (i := 42) (by decide +kernel)) (by decide +kernel)
theorem ks_43 : Cond.selects "CoastLampsModel" (⟨"CoastLampsModel", "toneFlare", "()I"⟩ : MethodName) (⟨"CoastLampsModel", "toneFlare", "()I"⟩ : MethodName) ∈ tbl := tbl_of (List.mem_of_getElem? (i := 43) (by decide +kernel)) (by decide +kernel)
theorem ks_44 : Cond.selects "CoastLampsModel" (⟨"CoastLampsModel", "toneOuter", "(I)I"⟩ : MethodName) (⟨"CoastLampsModel", "toneOuter", "(I)I"⟩ : MethodName) ∈ tbl := tbl_of (List.mem_of_getElem? (i := 44) (by decide +kernel)) (by decide +kernel)
theorem ks_45 : Cond.selects "CoastLampsModel" (⟨"CoastLampsModel", "isAnyLit", "()Z"⟩ : MethodName) (⟨"CoastLampsModel", "isAnyLit", "()Z"⟩ : MethodName) ∈ tbl := tbl_of (List.mem_of_getElem? (i := 45) (by decide +kernel)) (by decide +kernel)
theorem i_Oil : ∀ w ∈ u_ws R_Oil F_Lamp 6, w ∈ tbl := by decide +kernel
theorem i_Round : ∀ w ∈ u_ws R_Round F_Lamp 6, w ∈ tbl := by decide +kernel
theorem i_Twin : ∀ w ∈ u_ws R_Twin F_Lamp 6, w ∈ tbl := by decide +kernel
theorem i_Drum : ∀ w ∈ u_ws R_Drum F_Lamp 6, w ∈ tbl := by decide +kernel
theorem i_Swing : ∀ w ∈ u_ws R_Swing F_Lamp 6, w ∈ tbl := by decide +kernel
theorem i_Gas : ∀ w ∈ u_ws R_Gas F_Lamp 6, w ∈ tbl := by decide +kernel
theorem i_Flare : ∀ w ∈ u_ws R_Flare F_Lamp 6, w ∈ tbl := by decide +kernel
theorem i_Buoy : ∀ w ∈ u_ws R_Buoy F_Lamp 6, w ∈ tbl := by decide +kernel
theorem i_Outer : ∀ w ∈ u_ws R_Outer F_Lamp 6, w ∈ tbl := by decide +kernel
theorem i_Coast : ∀ w ∈ u_ws R_Coast F_Coast 3, w ∈ tbl := by decide +kernel
theorem i_X : ∀ w ∈ u_ws R_X F_X 7, w ∈ tbl := by decide +kernel
theorem i_M : ∀ w ∈ u_ws R_M F_M 13, w ∈ tbl := by decide +kernel
end
section
/-! my own rows: a contract with an exact end, over a whole world of cells, no cell made -/
abbrev zR (fr lo : Nat) : Room := { frames := fr, cells := 0, slots := 0, locals := lo }
def zW (D : va_G) (tys : List (ClassId × FieldType)) (A : Nat → Prop) (w : va_W) (U : State) : Prop := va_P D classes w U.heap ∧ va_K D classes tys U ∧ va_D A w
def zQ (D : va_G) (tys : List (ClassId × FieldType)) (A : Nat → Prop) (w2 : va_W) (rv : Option Value) : Array Value → State → Outcome → State → Prop := fun _ st oc t => oc = .returned rv ∧ zW D tys A w2 t ∧ va_F A st t
def zM (l : Launch) (y : MethodName) (b : ByteArray) (n : Nat) (r : Option FieldType) (fr lo : Nat) (as : List Value) (D : va_G) (tys : List (ClassId × FieldType)) (A : Nat → Prop) (w w2 : va_W) (rv : Option Value) : Prop :=
  Met l y (.code y b n r :: tbl) (zR fr lo) (va_Pc as (zW D tys A w)) (zQ D tys A w2 rv) 0 0 A
/-- what a method's body has at hand -/
def zE (p : Program) (s : State) (m : MethodId) (args : Array Value) (meth : Method) (c : Code) (own : String) (b : ByteArray) (n : Nat) (r : Option FieldType) : Prop :=
  p.tables.exec = Jvm.exec ∧ c.code = b ∧ c.maxLocals = n ∧ s.vm.findClass own = some m.cls ∧ (∀ w ∈ tbl, w.before args s = true) ∧ meth.sig.returnType = r ∧ meth.locks = false
theorem zM_of {l : Launch} {y : MethodName} {b : ByteArray} {n : Nat} {r : Option FieldType} {fr lo : Nat} {as : List Value} {D : va_G} {tys : List (ClassId × FieldType)} {A : Nat → Prop} {w w2 : va_W} {rv : Option Value} (own : String) (ho : y.cls = own) (hy : plainName own = true) (hn : (lg_sl as).length ≤ n)
    (body : ∀ (p : Program) (e : Env) (s : State) (m : MethodId) (below : List Frame) (meth : Method) (c : Code) (ls : Array Slot), zE p s m as.toArray meth c own b n r → va_P D classes w s.heap → va_K D classes tys s → va_D A w → va_S A s.heap s.heap [] → lv_has ls n (lv_args 0 as) →
      W p l e (zR fr lo) s m as.toArray below meth c s.heap [] 0 0 (MQ below (zQ D tys A w2 rv) as.toArray s 0 0 A) (F0 m 0 ls [])) : zM l y b n r fr lo as D tys A w w2 rv := by
  subst ho
  refine Met.ofW (cc := b) (maxL := n) (ret := r) hy rfl ?_
  intro p e s m args below meth c s₁ B hml hv
  obtain ⟨rfl, hP, hK, hD⟩ := hv
  have hl := lv_entry as (n := n) hn
  have hts := atoms_spec (ws := Cond.code y b n r :: tbl) B.pre
  rw [lg_entry_eq]
  exact body p e s m below meth c _ ⟨B.exec, B.bytes, hml, findClass_of_methodNamed B.named, fun w h => hts w (List.mem_cons_of_mem _ h), B.returns, B.notSynchronized⟩ hP hK hD va_S.rf hl
/-- what the tables say of a method that is called -/
def zY (y : MethodName) (b : ByteArray) (n : Nat) (r : Option FieldType) (np : Nat) : Prop :=
  Cond.code y b n r ∈ tbl ∧ Cond.initialized y.cls ∈ tbl ∧ (y.cls ≠ "java/lang/invoke/MethodHandle" ∧ y.cls ≠ "java/lang/invoke/VarHandle") ∧ (parseMethodDescriptor y.desc).map (fun d => d.parameters.length) = some np
theorem z_gd {y : MethodName} {b : ByteArray} {n : Nat} {r : Option FieldType} (h : Cond.code y b n r ∈ tbl) : GoodIn tbl (.code y b n r :: tbl) := fun w hw => by
  rcases List.mem_cons.mp hw with rfl | hw
  · exact ⟨h, tbl_good h⟩
  · exact ⟨hw, tbl_good hw⟩
theorem z_ga {a b : List Cond} (ha : ∀ w ∈ a, w ∈ tbl) (hb : GoodIn tbl b) : GoodIn tbl (a ++ b) := fun w hw => by
  rcases List.mem_append.mp hw with h | h
  · exact ⟨ha w h, tbl_good (ha w h)⟩
  · exact hb w h
theorem z_blind (as : List Value) (D : va_G) (tys : List (ClassId × FieldType)) (A : Nat → Prop) (w : va_W) : FrameBlind (va_Pc as (zW D tys A w)) := fun a U g mk q => ⟨q.1, q.2.1, va_K.moved (u := U) (U := U.calling g mk a) (Vm.Alike.refl U.vm) q.2.2.1, q.2.2.2⟩
abbrev zst (rv : Option Value) (rest : List Value) : List Value := match rv with
  | none => rest
  | some v => v :: rest
section ZC
variable {p : Program} {l : Launch} {e : Env} {R : Room} {s : State} {m : MethodId} {args : Array Value} {below : List Frame} {meth : Method} {c : Code} {H : Heap} {locs : List Loc} {cells slots : Nat} {Q : State → Prop}
variable {pc : Nat} {ls : Array Slot} {D : va_G} {tys : List (ClassId × FieldType)} {A A0 : Nat → Prop} {own : String} {b : ByteArray} {n : Nat} {r : Option FieldType}
/-- behind a call -/
theorem zgo {rv : Option Value} {w2 : va_W} {rest st0 : List Value} {a : Array Value} {H0 : Heap} (hr : va_Run p l e R s m args below meth c H locs cells slots 0 0 (F0 m pc ls st0) rest (zQ D tys A w2 rv a) A) (hS : va_S A0 H0 H locs) (hA : ∀ q, A q → A0 q)
    (kk : ∀ (H1 : Heap) (locs1 : List Loc), va_P D classes w2 H1 → va_D A w2 → (∀ q : Nat, q < H.size → ¬ A q → H1[q]? = H[q]?) → va_S A0 H0 H1 locs1 → W p l e R s m args below meth c H1 locs1 cells slots Q (F0 m (pc + 3) ls (zst rv rest))) : W p l e R s m args below meth c H locs cells slots Q (F0 m pc ls st0) := by
  intro T hT X
  obtain ⟨v, st₀, t, T', L, h0, X', hL, e1, e2, ⟨hv, ⟨hP, hK, hD⟩, hz, hk⟩, st⟩ := hr T hT X
  have hv' : v = rv := Outcome.returned.inj hv
  subst hv'
  rw [h0] at hz hk
  obtain ⟨t2, a1, b1⟩ := kk T'.heap (locs ++ L) (by rw [e1]; exact hP) hD (fun q h1 h2 => by rw [e1]; exact hk q h1 h2)
    ⟨Nat.le_trans hS.1 (by rw [e1]; exact hz), fun q h1 h2 => by rw [e1, hk q (Nat.lt_of_lt_of_le h1 hS.1) (fun z => h2 (hA q z))]; exact hS.2.1 q h1 h2, fun q hq => by
      rcases List.mem_append.mp hq with h | h
      · exact hS.2.2 q h
      · exact hA _ (hL q h)⟩ T' rfl X'
  refine ⟨t2, st t2 ?_, b1⟩
  cases v <;> exact a1
theorem z_pre {C : String} {T : u_T} {N ci : Nat} {a : Nat} {fs : List Value} {w : va_W} {As : List Value} (hK : va_K D classes tys s) (hP : va_P D classes w H) (hD : va_D A w) (q0 : Nat) (he : w[q0]? = some (a, .inr (ci, fs))) (hc : classes[ci]? = some (C, T, N)) : PreV s H C a (va_Pc (.ref a :: As) (zW D tys A w)) As :=
  ⟨z_blind _ _ _ _ _, va_recv hK hP hc he, fun U hU hW => ⟨rfl, by rw [hU]; exact hP, va_K.moved hW.alike hK, hD⟩⟩
/-- a virtual call whose reference names the method that runs -/
theorem zcV {y : MethodName} {b' : ByteArray} {n' : Nat} {r' : Option FieldType} {np fr lo idx ci N : Nat} {As rest st : List Value} {a : Nat} {w w2 : va_W} {rv : Option Value} {C : String} {T : u_T} {fs : List Value} (E : zE p s m args meth c own b n r) (hY : zY y b' n' r' np) (hin : Cond.instanceMethod y ∈ tbl) (hsel : Cond.selects y.cls y y ∈ tbl) (hlink : Cond.methodLink own idx y ∈ tbl)
    (hM : zM l y b' n' r' fr lo (.ref a :: As) D tys A w w2 rv) (hK : va_K D classes tys s) (hP : va_P D classes w H) (hD : va_D A w) (hS : va_S A s.heap H locs) (q0 : Nat) (he : w[q0]? = some (a, .inr (ci, fs))) (hc : classes[ci]? = some (C, T, N)) (hC : C = y.cls)
    (hn : As.length = np) (hl : ls.size = n) (hst : st = As.reverse ++ .ref a :: rest) (hroom : (rest.map fun v => v.category).sum ≤ 8) (hR : fr + 1 ≤ R.frames ∧ 8 + (n' + 11) + lo ≤ R.locals) (hd : decode b pc = .ok (.invokevirtual idx, 3)) (hcs : cells ≤ R.cells ∧ slots ≤ R.slots)
    (kk : ∀ (H1 : Heap) (locs1 : List Loc), va_P D classes w2 H1 → va_D A w2 → va_S A s.heap H1 locs1 → W p l e R s m args below meth c H1 locs1 cells slots Q (F0 m (pc + 3) ls (zst rv rest))) : W p l e R s m args below meth c H locs cells slots Q (F0 m pc ls st) := by
  subst hC; subst hst
  obtain ⟨hx, hb, hml, ho, hts, hr, hk⟩ := E
  obtain ⟨hcode, hini, hmh, hnp⟩ := hY
  refine zgo (va_runV (As := As) (rest := rest) (own := own) ⟨hx, hb, hml, ho, hts⟩ hM (cwV np hts (z_ga (fun w hw => ?_) (z_gd hcode)) rfl rfl rfl ⟨rfl, hmh.1, hmh.2, hnp⟩ hR) (z_pre hK hP hD q0 he hc) rfl hn hl rfl (lv_room hroom) hd hcs) hS (fun _ h => h) (fun H1 locs1 h1 h2 _ h3 => kk H1 locs1 h1 h2 h3)
  simp only [List.mem_cons, List.not_mem_nil, or_false] at hw
  rcases hw with rfl | rfl | rfl | rfl <;> assumption
/-- a static call -/
theorem zcS {y : MethodName} {b' : ByteArray} {n' : Nat} {r' : Option FieldType} {np fr lo idx : Nat} {As rest st : List Value} {w w2 : va_W} {rv : Option Value} (E : zE p s m args meth c own b n r) (hY : zY y b' n' r' np) (hin : Cond.static y ∈ tbl) (hlink : Cond.methodLink own idx y ∈ tbl) (hC : y.cls = own)
    (hM : zM l y b' n' r' fr lo As D tys A w w2 rv) (hK : va_K D classes tys s) (hP : va_P D classes w H) (hD : va_D A w) (hS : va_S A s.heap H locs)
    (hn : As.length = np) (hl : ls.size = n) (hst : st = As.reverse ++ rest) (hroom : (rest.map fun v => v.category).sum ≤ 8) (hR : fr + 1 ≤ R.frames ∧ 8 + (n' + 11) + lo ≤ R.locals) (hd : decode b pc = .ok (.invokestatic idx, 3)) (hcs : cells ≤ R.cells ∧ slots ≤ R.slots)
    (kk : ∀ (H1 : Heap) (locs1 : List Loc), va_P D classes w2 H1 → va_D A w2 → va_S A s.heap H1 locs1 → W p l e R s m args below meth c H1 locs1 cells slots Q (F0 m (pc + 3) ls (zst rv rest))) : W p l e R s m args below meth c H locs cells slots Q (F0 m pc ls st) := by
  subst hC; subst hst
  obtain ⟨hx, hb, hml, ho, hts, hr, hk⟩ := E
  obtain ⟨hcode, hini, hmh, hnp⟩ := hY
  refine zgo (va_runS (As := As) (rest := rest) (own := y.cls) ⟨hx, hb, hml, ho, hts⟩ hM (cwS np hts (z_ga (fun w hw => ?_) (z_gd hcode)) rfl rfl rfl ⟨rfl, hmh.1, hmh.2, hnp⟩ hR) ⟨z_blind _ _ _ _ _, fun U hU hW => ⟨rfl, by rw [hU]; exact hP, va_K.moved hW.alike hK, hD⟩⟩ rfl hn hl rfl (lv_room hroom) hd hcs) hS (fun _ h => h) (fun H1 locs1 h1 h2 _ h3 => kk H1 locs1 h1 h2 h3)
  simp only [List.mem_cons, List.not_mem_nil, or_false] at hw
  rcases hw with rfl | rfl | rfl <;> assumption
/-- a virtual call by the reference x (declared by owner), of which the receiver's class C selects y -/
theorem zcU {x y : MethodName} {owner : String} {b' b0 : ByteArray} {n' n0 : Nat} {r' r0 : Option FieldType} {np fr lo idx ci N : Nat} {As rest st : List Value} {a : Nat} {w w2 : va_W} {rv : Option Value} {C : String} {T : u_T} {fs : List Value} (E : zE p s m args meth c own b n r) (hY : zY y b' n' r' np) (hY0 : zY ⟨owner, x.name, x.desc⟩ b0 n0 r0 np) (hin : Cond.instanceMethod y ∈ tbl) (hin0 : Cond.instanceMethod ⟨owner, x.name, x.desc⟩ ∈ tbl) (hsame : Cond.sameMethod x.cls owner x.name x.desc ∈ tbl) (hsel : Cond.selects C x y ∈ tbl) (hlink : Cond.methodLink own idx x ∈ tbl)
    (hM : zM l y b' n' r' fr lo (.ref a :: As) D tys A w w2 rv) (hK : va_K D classes tys s) (hP : va_P D classes w H) (hD : va_D A w) (hS : va_S A s.heap H locs) (q0 : Nat) (he : w[q0]? = some (a, .inr (ci, fs))) (hc : classes[ci]? = some (C, T, N))
    (hn : As.length = np) (hl : ls.size = n) (hst : st = As.reverse ++ .ref a :: rest) (hroom : (rest.map fun v => v.category).sum ≤ 8) (hR : fr + 1 ≤ R.frames ∧ 8 + (n' + 11) + lo ≤ R.locals) (hd : decode b pc = .ok (.invokevirtual idx, 3)) (hcs : cells ≤ R.cells ∧ slots ≤ R.slots)
    (kk : ∀ (H1 : Heap) (locs1 : List Loc), va_P D classes w2 H1 → va_D A w2 → va_S A s.heap H1 locs1 → W p l e R s m args below meth c H1 locs1 cells slots Q (F0 m (pc + 3) ls (zst rv rest))) : W p l e R s m args below meth c H locs cells slots Q (F0 m pc ls st) := by
  subst hst
  obtain ⟨hx, hb, hml, ho, hts, hr, hk⟩ := E
  obtain ⟨hcode, hini, hmh, hnp⟩ := hY
  obtain ⟨hcode0, hini0, hmh0, hnp0⟩ := hY0
  refine zgo (va_runU (x := x) (owner := owner) (As := As) (rest := rest) (own := own) ⟨hx, hb, hml, ho, hts⟩ hM (va_cwO np hts (z_ga (fun w hw => ?_) (z_gd hcode)) rfl rfl rfl hcode0 ⟨hmh0.1, hmh0.2, hnp0⟩ hR) (z_pre hK hP hD q0 he hc) rfl hn hl rfl (lv_room hroom) hd hcs) hS (fun _ h => h) (fun H1 locs1 h1 h2 _ h3 => kk H1 locs1 h1 h2 h3)
  simp only [List.mem_cons, List.not_mem_nil, or_false] at hw
  rcases hw with rfl | rfl | rfl | rfl | rfl | rfl <;> assumption
/-- one step up -/
theorem z_sub1 {C P : String} {c1 p1 : ClassId} (h : (Cond.superclass C P).before args s = true) (hc : s.vm.findClass C = some c1) (hp : s.vm.findClass P = some p1) : s.vm.isSubclass c1 p1 = true := by
  obtain ⟨p, k, kp, h1, h2, h3, h4, -, -, -⟩ := Cond.superclass_spec hc h
  cases h1.symm.trans hp
  have hz : 1 ≤ s.vm.classes.size := by
    have := (Array.getElem?_eq_some_iff.mp h2).1
    omega
  obtain ⟨z, hz⟩ : ∃ z, s.vm.classes.size = z + 1 := ⟨s.vm.classes.size - 1, by omega⟩
  simp [Vm.isSubclass, Vm.isSubclassAux, h2, h4, hz]
theorem z_sub2 {C P G : String} {c1 g1 : ClassId} (h : (Cond.superclass C P).before args s = true) (h' : (Cond.superclass P G).before args s = true) (hc : s.vm.findClass C = some c1) (hg : s.vm.findClass G = some g1) : s.vm.isSubclass c1 g1 = true := by
  obtain ⟨p, k, kp, h1, h2, h3, h4, -, -, -⟩ := Cond.superclass_spec hc h
  obtain ⟨g, k', kg, q1, q2, q3, q4, -, -, -⟩ := Cond.superclass_spec h1 h'
  cases q1.symm.trans hg
  by_cases hcp : c1 = p
  · subst hcp
    have hz : 1 ≤ s.vm.classes.size := by
      have := (Array.getElem?_eq_some_iff.mp h2).1
      omega
    obtain ⟨z, hz⟩ : ∃ z, s.vm.classes.size = z + 1 := ⟨s.vm.classes.size - 1, by omega⟩
    simp [Vm.isSubclass, Vm.isSubclassAux, q2, q4, hz]
  · have hz : 2 ≤ s.vm.classes.size := by
      have a1 := (Array.getElem?_eq_some_iff.mp h2).1
      have a2 := (Array.getElem?_eq_some_iff.mp q2).1
      rcases Nat.lt_or_gt_of_ne (show @Ne Nat c1 p from hcp) with h9 | h9
      · exact Nat.le_trans (Nat.succ_le_succ (Nat.succ_le_of_lt (Nat.lt_of_le_of_lt (Nat.zero_le _) h9))) a2
      · exact Nat.le_trans (Nat.succ_le_succ (Nat.succ_le_of_lt (Nat.lt_of_le_of_lt (Nat.zero_le _) h9))) a1
    obtain ⟨z, hz⟩ : ∃ z, s.vm.classes.size = z + 2 := ⟨s.vm.classes.size - 2, by omega⟩
    simp [Vm.isSubclass, Vm.isSubclassAux, h2, h4, q2, q4, hz]
/-- super.m(..), the method being the superclass's own or one above it: the reference names x, the method that runs is y -/
theorem zcP {x y : MethodName} {b' : ByteArray} {n' : Nat} {r' : Option FieldType} {np fr lo idx ci N : Nat} {As rest st : List Value} {a : Nat} {w w2 : va_W} {rv : Option Value} {C : String} {T : u_T} {fs : List Value} (E : zE p s m args meth c own b n r) (hY : zY y b' n' r' np) (hin : Cond.instanceMethod y ∈ tbl) (hsame : Cond.sameMethod x.cls y.cls x.name x.desc ∈ tbl) (hxy : y.name = x.name ∧ y.desc = x.desc ∧ x.name ≠ "<init>") (hsup : Cond.superclass own x.cls ∈ tbl) (hsub : ∀ a1 g1, s.vm.findClass x.cls = some a1 → s.vm.findClass y.cls = some g1 → s.vm.isSubclass a1 g1 = true) (hlink : Cond.methodLink own idx x ∈ tbl)
    (hM : zM l y b' n' r' fr lo (.ref a :: As) D tys A w w2 rv) (hK : va_K D classes tys s) (hP : va_P D classes w H) (hD : va_D A w) (hS : va_S A s.heap H locs) (q0 : Nat) (he : w[q0]? = some (a, .inr (ci, fs))) (hc : classes[ci]? = some (C, T, N))
    (hn : As.length = np) (hl : ls.size = n) (hst : st = As.reverse ++ .ref a :: rest) (hroom : (rest.map fun v => v.category).sum ≤ 8) (hR : fr + 1 ≤ R.frames ∧ 8 + (n' + 11) + lo ≤ R.locals) (hd : decode b pc = .ok (.invokespecial idx, 3)) (hcs : cells ≤ R.cells ∧ slots ≤ R.slots)
    (kk : ∀ (H1 : Heap) (locs1 : List Loc), va_P D classes w2 H1 → va_D A w2 → va_S A s.heap H1 locs1 → W p l e R s m args below meth c H1 locs1 cells slots Q (F0 m (pc + 3) ls (zst rv rest))) : W p l e R s m args below meth c H locs cells slots Q (F0 m pc ls st) := by
  subst hst
  obtain ⟨hx, hb, hml, ho, hts, hr, hk⟩ := E
  obtain ⟨hcode, hini, hmh, hnp⟩ := hY
  obtain ⟨hyn, hyd, hno⟩ := hxy
  have hp : PreV s H C a (va_Pc (.ref a :: As) (zW D tys A w)) As := z_pre hK hP hD q0 he hc
  have hBk : Back l R p e below s args y 3 8 (PreOf R 0 0 (va_Pc (.ref a :: As) (zW D tys A w))) (PostOf (zQ D tys A w2 rv) 0 0 A) := back_of (bytes := b') (maxL := n') (ret := r') hM hp.1 rfl rfl hR.1 hR.2 (pay_in hts (z_gd hcode)) List.mem_cons_self (fun a' U hW => word_at hW (Or.inl (by first | rfl | simp [Cond.onTables, Cond.keeps, Cond.steady])) (hts _ hini))
  obtain ⟨hfc, kB, hkB, -⟩ := (hK.1 ci _ hc).2
  obtain ⟨-, ⟨cellB, hcB, hoB, hclB⟩, hPc⟩ := hp
  have hcc : D.1 ci = cellB.cls := Option.some.inj (hfc.symm.trans hclB)
  rw [hcc] at hkB
  have hrun : va_Run p l e R s m args below meth c H locs cells slots 0 0 (F0 m pc ls (As.reverse ++ .ref a :: rest)) rest (zQ D tys A w2 rv (Value.ref a :: As).toArray) A := by
    intro T0 hT X
    obtain ⟨mk, methM, hnamed, hmethM, hstM, habM⟩ := Cond.instanceMethod_spec (hts _ hin)
    obtain ⟨methM', cM, hmethM', -, -, -, -, -, -, hsigM⟩ := Cond.code_spec hnamed (hts _ hcode)
    cases hmethM.symm.trans hmethM'
    obtain ⟨ps, dk, kp, hps, hdk, hkp, hsuper, -, -, hnid⟩ := Cond.superclass_spec ho (hts _ hsup)
    have hn' : s.methodNamed? ⟨y.cls, x.name, x.desc⟩ = some mk := by rw [← hyn, ← hyd]; exact hnamed
    have hsb : s.vm.isSubclass ps mk.cls = true := hsub ps mk.cls hps (findClass_of_methodNamed hnamed)
    have hlen : As.length = methM.sig.parameters.length := by
      rw [hsigM] at hnp
      exact hn.trans (Option.some.inj hnp).symm
    obtain ⟨vm₁, X₁, hstep₁⟩ := X.invokespecialUp hx ho (hts _ hlink) (hts _ hsame) hn' hmethM hstM habM hno hdk hnid hps hsuper hsb (a := a) (cell := cellB) (by rw [hT]; exact hcB)
      (fun z h => by rw [h] at hoB; cases hoB) hkB (g := F0 m pc ls (As.reverse ++ .ref a :: rest)) rfl (argsL := As) (rest := rest) hlen rfl (by rw [hb]; exact hd)
    obtain ⟨v, ⟨U', l2, c2, s2⟩, X', ⟨g', mk', t, L, e1, e2, hq, h1, hL, h2, h3⟩, hsteps⟩ := hBk m meth c ⟨T0.setVm vm₁, locs, cells, slots⟩ { F0 m pc ls (As.reverse ++ .ref a :: rest) with stack := rest } (.invokespecial idx) mk (Value.ref a :: As).toArray X₁ rfl (hl.trans hml.symm) (by rw [hb]; exact hd) (lv_room (ls := ls) (m := m) (pc := pc) (rest := rest) hroom) (X₁.named hnamed) ⟨hcs.1, hcs.2, hPc (T0.setVm vm₁) hT X₁.warmed⟩
    dsimp only [Pt.U, Pt.locs, Pt.cells, Pt.slots] at X' e1 e2 h1 h2 h3 hsteps
    subst h1; subst h2; subst h3
    exact ⟨v, (T0.setVm vm₁).calling g' mk' (Value.ref a :: As).toArray, t, U', L, hT, X', hL, e1, e2, hq, fun target h => hstep₁ _ (by rw [doInvoke_state]; exact hsteps.trans h)⟩
  exact zgo hrun hS (fun _ h => h) (fun H1 locs1 h1 h2 _ h3 => kk H1 locs1 h1 h2 h3)
/-- a class of the worlds -/
def zC (ci : Nat) (C : String) (T : u_T) (N : Nat) : Prop := classes[ci]? = some (C, T, N) ∧ ∀ w ∈ u_ws C T N, w ∈ tbl
theorem zget {C ref : String} {T : u_T} {N ci idx a : Nat} {fs rest : List Value} {ws : va_W} (E : zE p s m args meth c own b n r) (hK : va_K D classes tys s) (hP : va_P D classes ws H) (q0 : Nat) (he : ws[q0]? = some (a, .inr (ci, fs))) (hc : zC ci C T N) (k : Nat) (hk : k < N) (hlink : Cond.fieldLink own idx ref (T k).2.1 (T k).2.2.1 ∈ tbl) (hsame : (T k).1 = ref ∨ Cond.sameField ref (T k).1 (T k).2.1 (T k).2.2.1 ∈ tbl) {v : Value} (hv : fs[k]? = some v) (hd : decode b pc = .ok (.getfield idx, 3))
    (kk : W p l e R s m args below meth c H locs cells slots Q (F0 m (pc + 3) ls (v :: rest))) : W p l e R s m args below meth c H locs cells slots Q (F0 m pc ls (.ref a :: rest)) := by
  obtain ⟨hx, hb, hml, ho, hts, hr, hlk⟩ := E
  refine va_get (ref := ref) hx hb hts hc.2 ho hK hP q0 he hc.1 k hk (hts _ hlink) ?_ hv hd kk
  rcases hsame with h | h
  · rw [h]; exact fun _ h => h
  · exact fun x hx => u_same (hts _ h) x hx
theorem zput {C ref : String} {T : u_T} {N ci idx a : Nat} {fs rest : List Value} {ws : va_W} {H0 : Heap} {ty : FieldType} (E : zE p s m args meth c own b n r) (hK : va_K D classes tys s) (hP : va_P D classes ws H) (hD : va_D A ws) (hS : va_S A H0 H locs) (q0 : Nat) (he : ws[q0]? = some (a, .inr (ci, fs))) (hc : zC ci C T N) (ty0 : Nat → FieldType) (hty : ∀ k, k < N → parseFieldDescriptor (T k).2.2.1 = some (ty0 k)) (hnm : ∀ a, a < N → ∀ b, b < N → a ≠ b → (T a).2.1 ≠ (T b).2.1) (k : Nat) (hk : k < N) (hlink : Cond.fieldLink own idx ref (T k).2.1 (T k).2.2.1 ∈ tbl) (hsame : (T k).1 = ref ∨ Cond.sameField ref (T k).1 (T k).2.1 (T k).2.2.1 ∈ tbl) (hfin : (T k).2.2.2 = false) (hte : ty0 k = ty) {v : Value} (hn : narrow ty v = v) (hfit : fits ty v = true) (hl : k < fs.length) (hd : decode b pc = .ok (.putfield idx, 3)) {ws2 : va_W} (he2 : ws.set q0 (a, .inr (ci, fs.set k v)) = ws2)
    (kk : ∀ (H1 : Heap) (locs1 : List Loc), va_P D classes ws2 H1 → va_D A ws2 → va_S A H0 H1 locs1 → W p l e R s m args below meth c H1 locs1 cells slots Q (F0 m (pc + 3) ls rest)) : W p l e R s m args below meth c H locs cells slots Q (F0 m pc ls (v :: .ref a :: rest)) := by
  obtain ⟨hx, hb, hml, ho, hts, hr, hlk⟩ := E
  subst he2; subst hte
  refine va_put (ref := ref) hx hb hts hc.2 ty0 hty hnm ho hK hP hD hS q0 he hc.1 k hk (hts _ hlink) ?_ hfin (hty k hk) hn hfit hl hd kk
  rcases hsame with h | h
  · rw [h]; exact fun _ h => h
  · exact fun x hx => u_same (hts _ h) x hx
theorem zmax {idx : Nat} {x y : Int32} {rest : List Value} (E : zE p s m args meth c own b n r) (hl : ls.size = n) (hlink : Cond.methodLink own idx Lib.Math.max.name ∈ tbl) (hstat : Cond.static Lib.Math.max.name ∈ tbl) (hini : Cond.initialized "java/lang/Math" ∈ tbl) (hcode : Cond.code Lib.Math.max.name Lib.Math.max.code 2 (some .int) ∈ tbl)
    (hf : 1 ≤ R.frames) (hlo : (rest.map fun v => v.category).sum + 13 ≤ R.locals) (hcs : cells ≤ R.cells ∧ slots ≤ R.slots) (hd : decode b pc = .ok (.invokestatic idx, 3))
    (kk : W p l e R s m args below meth c H locs cells slots Q (F0 m (pc + 3) ls (.int (if x < y then y else x) :: rest))) : W p l e R s m args below meth c H locs cells slots Q (F0 m pc ls (.int y :: .int x :: rest)) := by
  obtain ⟨hx, hb, hml, ho, hts, hr, hlk⟩ := E
  exact va_mmax hx hb (hml.trans hl.symm) ho (hts _ hlink) (hts _ hstat) (hts _ hini) (hts _ hcode) hf hlo hcs.1 hcs.2 hd kk
theorem zri {w : va_W} {v : Int32} (E : zE p s m args meth c own b n (some .int)) (hK : va_K D classes tys s) (hP : va_P D classes w H) (hD : va_D A w) (hS : va_S A s.heap H locs) (hd : decode b pc = .ok (.ireturn, 1)) : W p l e R s m args below meth c H locs cells slots (MQ below (zQ D tys A w (some (.int v))) args s cells slots A) (F0 m pc ls [.int v]) := by
  obtain ⟨hx, hb, hml, ho, hts, hr, hk⟩ := E
  exact W.iret hx hb hr (fun t ht hW => ⟨rfl, ⟨by rw [ht]; exact hP, va_K.moved hW.alike hK, hD⟩, hS.F ht⟩) hS.2.2 hd hk
theorem zrz {w : va_W} {v : Int32} (E : zE p s m args meth c own b n (some .boolean)) (hK : va_K D classes tys s) (hP : va_P D classes w H) (hD : va_D A w) (hS : va_S A s.heap H locs) (hn : narrow .boolean (.int v) = .int v) (hd : decode b pc = .ok (.ireturn, 1)) : W p l e R s m args below meth c H locs cells slots (MQ below (zQ D tys A w (some (.int v))) args s cells slots A) (F0 m pc ls [.int v]) := by
  obtain ⟨hx, hb, hml, ho, hts, hr, hk⟩ := E
  exact W.zret hx hb hr hn (fun t ht hW => ⟨rfl, ⟨by rw [ht]; exact hP, va_K.moved hW.alike hK, hD⟩, hS.F ht⟩) hS.2.2 hd hk
theorem zrl {w : va_W} {v : Int64} (E : zE p s m args meth c own b n (some .long)) (hK : va_K D classes tys s) (hP : va_P D classes w H) (hD : va_D A w) (hS : va_S A s.heap H locs) (hd : decode b pc = .ok (.lreturn, 1)) : W p l e R s m args below meth c H locs cells slots (MQ below (zQ D tys A w (some (.long v))) args s cells slots A) (F0 m pc ls [.long v]) := by
  obtain ⟨hx, hb, hml, ho, hts, hr, hk⟩ := E
  exact W.lret hx hb hr (fun t ht hW => ⟨rfl, ⟨by rw [ht]; exact hP, va_K.moved hW.alike hK, hD⟩, hS.F ht⟩) hS.2.2 hd hk
theorem zrv {w : va_W} (E : zE p s m args meth c own b n none) (hK : va_K D classes tys s) (hP : va_P D classes w H) (hD : va_D A w) (hS : va_S A s.heap H locs) (hd : decode b pc = .ok (.return_, 1)) : W p l e R s m args below meth c H locs cells slots (MQ below (zQ D tys A w none) args s cells slots A) (F0 m pc ls []) := by
  obtain ⟨hx, hb, hml, ho, hts, hr, hk⟩ := E
  exact W.vret hx hb hr (fun t ht hW => ⟨rfl, ⟨by rw [ht]; exact hP, va_K.moved hW.alike hK, hD⟩, hS.F ht⟩) hS.2.2 hd hk
theorem zra {w : va_W} {v : Value} {C : String} (E : zE p s m args meth c own b n (some (.object C))) (hK : va_K D classes tys s) (hP : va_P D classes w H) (hD : va_D A w) (hS : va_S A s.heap H locs) (hv : v = .null ∨ ∃ a, v = .ref a) (hd : decode b pc = .ok (.areturn, 1)) : W p l e R s m args below meth c H locs cells slots (MQ below (zQ D tys A w (some v)) args s cells slots A) (F0 m pc ls [v]) := by
  obtain ⟨hx, hb, hml, ho, hts, hr, hk⟩ := E
  exact W.aret hx hb hr (Or.inl ⟨C, rfl⟩) hv (fun t ht hW => ⟨rfl, ⟨by rw [ht]; exact hP, va_K.moved hW.alike hK, hD⟩, hS.F ht⟩) hS.2.2 hd hk
end ZC
theorem zC_Coast : zC 9 R_Coast F_Coast 3 := ⟨rfl, i_Coast⟩
theorem zC_X : zC 10 R_X F_X 7 := ⟨rfl, i_X⟩
theorem zC_M : zC 11 R_M F_M 13 := ⟨rfl, i_M⟩
theorem zC_K {k : Nat} (hk : k < 9) : zC k (R_K k) F_Lamp 6 := by
  rcases (show k = 0 ∨ k = 1 ∨ k = 2 ∨ k = 3 ∨ k = 4 ∨ k = 5 ∨ k = 6 ∨ k = 7 ∨ k = 8 by omega) with rfl | rfl | rfl | rfl | rfl | rfl | rfl | rfl | rfl
  · exact ⟨rfl, i_Oil⟩
  · exact ⟨rfl, i_Round⟩
  · exact ⟨rfl, i_Twin⟩
  · exact ⟨rfl, i_Drum⟩
  · exact ⟨rfl, i_Swing⟩
  · exact ⟨rfl, i_Gas⟩
  · exact ⟨rfl, i_Flare⟩
  · exact ⟨rfl, i_Buoy⟩
  · exact ⟨rfl, i_Outer⟩
end
section
/-! what the bodies of the kinds answer and do, as functions: the class and the reference are both tied to these -/
abbrev zT : Type := (Nat → Int32) × {n : Nat // n ≤ 1000}
abbrev zS : Type := Int32 × zT
def tb (x : Int32) (t : zT) : zT := if h : t.2.1 < 1000 then (upd t.1 t.2.1 x, ⟨t.2.1 + 1, h⟩) else t
def bLamp (d : Nat → Int32) (h : Int32) (σ : zS) : Int32 × zS := (h * d 0 + 1, (σ.1 + h, tb 0 σ.2))
def bOil (d : Nat → Int32) (h : Int32) (σ : zS) : Int32 × zS := ((bLamp d h (σ.1, tb 10 σ.2)).1 + (bLamp d h (σ.1, tb 10 σ.2)).2.1 / 50, (bLamp d h (σ.1, tb 10 σ.2)).2)
def bTwin (d : Nat → Int32) (h : Int32) (σ : zS) : Int32 × zS := ((bOil d h (σ.1, tb 30 σ.2)).1 + (bOil d h (bOil d h (σ.1, tb 30 σ.2)).2).1, (bOil d h (bOil d h (σ.1, tb 30 σ.2)).2).2)
def bSwing (d : Nat → Int32) (h : Int32) (σ : zS) : Int32 × zS := ((bTwin d h (σ.1, tb 50 σ.2)).1 + h / 2, (bTwin d h (σ.1, tb 50 σ.2)).2)
def bFlare (d : Nat → Int32) (h : Int32) (σ : zS) : Int32 × zS := bLamp d (h / 2) (σ.1, tb 70 σ.2)
def bOuter (d : Nat → Int32) (h : Int32) (σ : zS) : Int32 × zS := (if (bFlare d h (σ.1, tb 90 σ.2)).1 - d 1 < 0 then 0 else (bFlare d h (σ.1, tb 90 σ.2)).1 - d 1, (bFlare d h (σ.1, tb 90 σ.2)).2)
def rLamp (ht m : Int32) (σ : zS) : Int32 × zS := (ht / 10 + 30 - 3 * m, (σ.1, tb 1 σ.2))
def rRound (d : Nat → Int32) (ht m : Int32) (σ : zS) : Int32 × zS := ((rLamp ht m (σ.1, tb 21 σ.2)).1 + d 2, (rLamp ht m (σ.1, tb 21 σ.2)).2)
def rTwin (d : Nat → Int32) (ht m : Int32) (σ : zS) : Int32 × zS := ((rRound d ht m (σ.1, tb 31 σ.2)).1 + (rRound d ht (m + 1) (rRound d ht m (σ.1, tb 31 σ.2)).2).1 / 2, (rRound d ht (m + 1) (rRound d ht m (σ.1, tb 31 σ.2)).2).2)
def rDrum (d : Nat → Int32) (ht m : Int32) (σ : zS) : Int32 × zS := (if (rTwin d ht m (σ.1, tb 41 σ.2)).1 < 20 then 20 else (rTwin d ht m (σ.1, tb 41 σ.2)).1, (rTwin d ht m (σ.1, tb 41 σ.2)).2)
def rGas (ht m : Int32) (σ : zS) : Int32 × zS := ((rLamp ht m (σ.1, tb 61 σ.2)).1 - (rLamp ht m (σ.1, tb 61 σ.2)).2.1 / 10, (rLamp ht m (σ.1, tb 61 σ.2)).2)
def rBuoy (ht m : Int32) (σ : zS) : Int32 × zS := ((rGas ht m (σ.1, tb 81 σ.2)).1 / 2, (rGas ht m (σ.1, tb 81 σ.2)).2)
def fLamp (σ : zS) : Int32 × zS := (100, (σ.1, tb 2 σ.2))
def fTwin (t : Int32) (σ : zS) : Int32 × zS := if t &&& 3 = 0 then (0, (σ.1, tb 32 σ.2)) else fLamp (σ.1, tb 32 σ.2)
def fSwing (t : Int32) (σ : zS) : Int32 × zS := fTwin (t / 3) (σ.1, tb 52 σ.2)
def fFlare (t : Int32) (σ : zS) : Int32 × zS := if t &&& 1 = 0 then fLamp (σ.1, tb 72 σ.2) else (0, (σ.1, tb 72 σ.2))
def fOuter (t : Int32) (σ : zS) : Int32 × zS := ((fFlare t (σ.1, tb 92 σ.2)).1 + (fFlare (t + 1) (fFlare t (σ.1, tb 92 σ.2)).2).1, (fFlare (t + 1) (fFlare t (σ.1, tb 92 σ.2)).2).2)
def tLamp (n : Int32) (σ : zS) : Int32 × zS := (if σ.1 - n < 0 then 0 else σ.1 - n, (if σ.1 - n < 0 then 0 else σ.1 - n, tb 3 σ.2))
def tRound (n : Int32) (σ : zS) : Int32 × zS := tLamp (n / 2) (tLamp n (σ.1, tb 23 σ.2)).2
def tDrum (d : Nat → Int32) (n : Int32) (σ : zS) : Int32 × zS := tRound (n + d 3) (σ.1, tb 43 σ.2)
def tBuoy (d : Nat → Int32) (n : Int32) (σ : zS) : Int32 × zS := if d 4 = 0 then tLamp n (σ.1, tb 83 σ.2) else (d 4, (σ.1, tb 83 σ.2))
def kLamp (ht : Int32) (σ : zS) : Int32 × zS := (ht - ht / 9 * 9, (σ.1, tb 4 σ.2))
def kOil (ht : Int32) (σ : zS) : Int32 × zS := ((kLamp ht (σ.1, tb 14 σ.2)).1 + 1, (kLamp ht (σ.1, tb 14 σ.2)).2)
def kDrum (ht : Int32) (σ : zS) : Int32 × zS := (2 * (kOil ht (σ.1, tb 44 σ.2)).1, (kOil ht (σ.1, tb 44 σ.2)).2)
def kFlare (ht : Int32) (σ : zS) : Int32 × zS := ((kLamp ht (σ.1, tb 74 σ.2)).1 + ((kLamp ht (σ.1, tb 74 σ.2)).2.1 - (kLamp ht (σ.1, tb 74 σ.2)).2.1 / 5 * 5), (kLamp ht (σ.1, tb 74 σ.2)).2)
def kOuter (ht tk : Int32) (σ : zS) : Int32 × zS := ((kFlare ht (σ.1, tb 94 σ.2)).1 + (tk - tk / 3 * 3), (kFlare ht (σ.1, tb 94 σ.2)).2)
def oOil (σ : zS) : Int32 × zS := (7, (σ.1, tb 16 σ.2))
def oDrum (d : Nat → Int32) (σ : zS) : Int32 × zS := ((oOil (σ.1, tb 46 σ.2)).1 + d 5, (oOil (σ.1, tb 46 σ.2)).2)
def oFlare (σ : zS) : Int32 × zS := (9, (σ.1, tb 76 σ.2))
def oOuter (ht tk : Int32) (σ : zS) : Int32 × zS := ((oFlare (σ.1, tb 96 σ.2)).1 + (kOuter ht tk (oFlare (σ.1, tb 96 σ.2)).2).1, (kOuter ht tk (oFlare (σ.1, tb 96 σ.2)).2).2)
/-! by kinds: k is the kind less 1 -/
def burnK (k : Nat) (d : Nat → Int32) (h : Int32) (σ : zS) : Int32 × zS := match k with
  | 0 | 1 => bOil d h σ
  | 2 | 3 => bTwin d h σ
  | 4 => bSwing d h σ
  | 5 => bLamp d h σ
  | 8 => bOuter d h σ
  | _ => bFlare d h σ
def reachK (k : Nat) (d : Nat → Int32) (ht m : Int32) (σ : zS) : Int32 × zS := match k with
  | 0 => rLamp ht m σ
  | 1 => rRound d ht m σ
  | 2 => rTwin d ht m σ
  | 3 | 4 => rDrum d ht m σ
  | 5 | 6 => rGas ht m σ
  | _ => rBuoy ht m σ
def flashK (k : Nat) (t : Int32) (σ : zS) : Int32 × zS := match k with
  | 2 | 3 => fTwin t σ
  | 4 => fSwing t σ
  | 6 | 7 => fFlare t σ
  | 8 => fOuter t σ
  | _ => fLamp σ
def tendK (k : Nat) (d : Nat → Int32) (n : Int32) (σ : zS) : Int32 × zS := match k with
  | 1 | 2 => tRound n σ
  | 3 | 4 => tDrum d n σ
  | 7 | 8 => tBuoy d n σ
  | _ => tLamp n σ
def rankK (k : Nat) (ht tk : Int32) (σ : zS) : Int32 × zS := match k with
  | 0 | 1 | 2 => kOil ht σ
  | 3 | 4 => kDrum ht σ
  | 5 => kLamp ht σ
  | 8 => kOuter ht tk σ
  | _ => kFlare ht σ
def toneK (k : Nat) (d : Nat → Int32) (ht tk : Int32) (σ : zS) : Int32 × zS := match k with
  | 3 | 4 => oDrum d σ
  | 6 | 7 => oFlare σ
  | 8 => oOuter ht tk σ
  | _ => oOil σ
def hornK (k : Nat) (d : Nat → Int32) (ht tk n : Int32) (σ : zS) : Int32 × zS := match k with
  | 4 => ((oDrum d (σ.1, tb 55 σ.2)).1 + n, (oDrum d (σ.1, tb 55 σ.2)).2)
  | k => ((toneK k d ht tk (σ.1, tb 5 σ.2)).1 * n + (reachK k d ht 0 (toneK k d ht tk (σ.1, tb 5 σ.2)).2).1, (reachK k d ht 0 (toneK k d ht tk (σ.1, tb 5 σ.2)).2).2)
def hornedK (k : Nat) : Bool := match k with
  | 0 | 1 | 5 => false
  | _ => true
def zb (b : Bool) : Int32 := if b then 1 else 0
theorem zb_nar (b : Bool) : narrow .boolean (.int (zb b)) = .int (zb b) := by cases b <;> rfl
theorem zb_fit (b : Bool) : fits .boolean (.int (zb b)) = true := by cases b <;> rfl
/-! the class's cells: the coast in front, then the dials and the entries, then all the rest; a lamp's cell stands at the place j of the rest -/
abbrev wc (c1 c2 : ClassId) (aC aD aE : Nat) (d : Nat → Int32) (rest : va_W) (t : zT) : va_W := (aC, .inr (9, [.ref aD, .ref aE, .int (nI t.2.1)])) :: (aD, .inl (c1, 8, .inl d)) :: (aE, .inl (c2, 1000, .inl t.1)) :: rest
abbrev wL (aC aL k : Nat) (kd ht tk so lt : Int32) : Nat × va_E := (aL, .inr (k, [.ref aC, .int kd, .int ht, .int tk, .int so, .int lt]))
abbrev wl (c1 c2 : ClassId) (aC aD aE aL k : Nat) (d : Nat → Int32) (kd ht tk lt : Int32) (rest : va_W) (j : Nat) (σ : zS) : va_W := wc c1 c2 aC aD aE d (rest.set j (wL aC aL k kd ht tk σ.1 lt)) σ.2
theorem zg {a b c x : Nat × va_E} {rest : va_W} {j : Nat} (hj : j < rest.length) : (a :: b :: c :: rest.set j x)[j + 3]? = some x := by
  show (rest.set j x)[j]? = some x
  rw [List.getElem?_set_self hj]
theorem zs {a b c x y : Nat × va_E} {rest : va_W} {j : Nat} : (a :: b :: c :: rest.set j x).set (j + 3) y = a :: b :: c :: rest.set j y := by
  show a :: b :: c :: (rest.set j x).set j y = _
  rw [List.set_set]
abbrev t3 (c1 c2 c3 : ClassId) : List (ClassId × FieldType) := [(c1, .int), (c2, .int), (c3, .object "CoastLamps$Lamp")]
theorem nI_w (t : zT) : t.2.1 < 2 ^ 31 := Nat.lt_of_le_of_lt t.2.2 (by decide)
end
section
theorem d_Buoy_init_0 : decode b_Buoy_init 0 = .ok (.aload_n 0, 1) := by decide +kernel
theorem d_Buoy_init_1 : decode b_Buoy_init 1 = .ok (.aload_n 1, 1) := by decide +kernel
theorem d_Buoy_init_2 : decode b_Buoy_init 2 = .ok (.iload_n 2, 1) := by decide +kernel
theorem d_Buoy_init_3 : decode b_Buoy_init 3 = .ok (.iload_n 3, 1) := by decide +kernel
theorem d_Buoy_init_4 : decode b_Buoy_init 4 = .ok (.invokespecial 3, 3) := by decide +kernel
theorem d_Buoy_init_7 : decode b_Buoy_init 7 = .ok (.return_, 1) := by decide +kernel
theorem cy_Buoy_init : zY y_Buoy_init b_Buoy_init 4 none 3 := ⟨kw_229, kw_12, by decide +kernel, by decide +kernel⟩
theorem d_Buoy_reach_0 : decode b_Buoy_reach 0 = .ok (.aload_n 0, 1) := by decide +kernel
theorem d_Buoy_reach_1 : decode b_Buoy_reach 1 = .ok (.getfield 9, 3) := by decide +kernel
theorem d_Buoy_reach_4 : decode b_Buoy_reach 4 = .ok (.bipush 8, 2) := by decide +kernel
theorem d_Buoy_reach_6 : decode b_Buoy_reach 6 = .ok (.iconst 1, 1) := by decide +kernel
theorem d_Buoy_reach_7 : decode b_Buoy_reach 7 = .ok (.invokevirtual 15, 3) := by decide +kernel
theorem d_Buoy_reach_10 : decode b_Buoy_reach 10 = .ok (.aload_n 0, 1) := by decide +kernel
theorem d_Buoy_reach_11 : decode b_Buoy_reach 11 = .ok (.iload_n 1, 1) := by decide +kernel
theorem d_Buoy_reach_12 : decode b_Buoy_reach 12 = .ok (.invokespecial 21, 3) := by decide +kernel
theorem d_Buoy_reach_15 : decode b_Buoy_reach 15 = .ok (.iconst 2, 1) := by decide +kernel
theorem d_Buoy_reach_16 : decode b_Buoy_reach 16 = .ok (.idiv, 1) := by decide +kernel
theorem d_Buoy_reach_17 : decode b_Buoy_reach 17 = .ok (.ireturn, 1) := by decide +kernel
theorem cy_Buoy_reach : zY y_Buoy_reach b_Buoy_reach 2 (some (FieldType.int)) 1 := ⟨kw_341, kw_12, by decide +kernel, by decide +kernel⟩
theorem d_Buoy_tend_0 : decode b_Buoy_tend 0 = .ok (.aload_n 0, 1) := by decide +kernel
theorem d_Buoy_tend_1 : decode b_Buoy_tend 1 = .ok (.getfield 9, 3) := by decide +kernel
theorem d_Buoy_tend_4 : decode b_Buoy_tend 4 = .ok (.bipush 8, 2) := by decide +kernel
theorem d_Buoy_tend_6 : decode b_Buoy_tend 6 = .ok (.iconst 3, 1) := by decide +kernel
theorem d_Buoy_tend_7 : decode b_Buoy_tend 7 = .ok (.invokevirtual 15, 3) := by decide +kernel
theorem d_Buoy_tend_10 : decode b_Buoy_tend 10 = .ok (.aload_n 0, 1) := by decide +kernel
theorem d_Buoy_tend_11 : decode b_Buoy_tend 11 = .ok (.getfield 9, 3) := by decide +kernel
theorem d_Buoy_tend_14 : decode b_Buoy_tend 14 = .ok (.iconst 4, 1) := by decide +kernel
theorem d_Buoy_tend_15 : decode b_Buoy_tend 15 = .ok (.invokevirtual 25, 3) := by decide +kernel
theorem d_Buoy_tend_18 : decode b_Buoy_tend 18 = .ok (.istore_n 2, 1) := by decide +kernel
theorem d_Buoy_tend_19 : decode b_Buoy_tend 19 = .ok (.iload_n 2, 1) := by decide +kernel
theorem d_Buoy_tend_20 : decode b_Buoy_tend 20 = .ok (.ifCond .ne 11, 3) := by decide +kernel
theorem d_Buoy_tend_23 : decode b_Buoy_tend 23 = .ok (.aload_n 0, 1) := by decide +kernel
theorem d_Buoy_tend_24 : decode b_Buoy_tend 24 = .ok (.iload_n 1, 1) := by decide +kernel
theorem d_Buoy_tend_25 : decode b_Buoy_tend 25 = .ok (.invokespecial 28, 3) := by decide +kernel
theorem d_Buoy_tend_28 : decode b_Buoy_tend 28 = .ok (.goto 4, 3) := by decide +kernel
theorem d_Buoy_tend_31 : decode b_Buoy_tend 31 = .ok (.iload_n 2, 1) := by decide +kernel
theorem d_Buoy_tend_32 : decode b_Buoy_tend 32 = .ok (.ireturn, 1) := by decide +kernel
theorem cy_Buoy_tend : zY y_Buoy_tend b_Buoy_tend 3 (some (FieldType.int)) 1 := ⟨kw_411, kw_12, by decide +kernel, by decide +kernel⟩
theorem d_Coast_init_0 : decode b_Coast_init 0 = .ok (.aload_n 0, 1) := by decide +kernel
theorem d_Coast_init_1 : decode b_Coast_init 1 = .ok (.invokespecial 3, 3) := by decide +kernel
theorem d_Coast_init_4 : decode b_Coast_init 4 = .ok (.aload_n 0, 1) := by decide +kernel
theorem d_Coast_init_5 : decode b_Coast_init 5 = .ok (.bipush 8, 2) := by decide +kernel
theorem d_Coast_init_7 : decode b_Coast_init 7 = .ok (.newarray .int, 2) := by decide +kernel
theorem d_Coast_init_9 : decode b_Coast_init 9 = .ok (.putfield 9, 3) := by decide +kernel
theorem d_Coast_init_12 : decode b_Coast_init 12 = .ok (.aload_n 0, 1) := by decide +kernel
theorem d_Coast_init_13 : decode b_Coast_init 13 = .ok (.sipush 1000, 3) := by decide +kernel
theorem d_Coast_init_16 : decode b_Coast_init 16 = .ok (.newarray .int, 2) := by decide +kernel
theorem d_Coast_init_18 : decode b_Coast_init 18 = .ok (.putfield 15, 3) := by decide +kernel
theorem d_Coast_init_21 : decode b_Coast_init 21 = .ok (.return_, 1) := by decide +kernel
theorem cy_Coast_init : zY y_Coast_init b_Coast_init 1 none 0 := ⟨kw_27, kw_2, by decide +kernel, by decide +kernel⟩
theorem d_Coast_dialed_0 : decode b_Coast_dialed 0 = .ok (.iload_n 1, 1) := by decide +kernel
theorem d_Coast_dialed_1 : decode b_Coast_dialed 1 = .ok (.ifCond .lt 21, 3) := by decide +kernel
theorem d_Coast_dialed_4 : decode b_Coast_dialed 4 = .ok (.iload_n 1, 1) := by decide +kernel
theorem d_Coast_dialed_5 : decode b_Coast_dialed 5 = .ok (.aload_n 0, 1) := by decide +kernel
theorem d_Coast_dialed_6 : decode b_Coast_dialed 6 = .ok (.getfield 9, 3) := by decide +kernel
theorem d_Coast_dialed_9 : decode b_Coast_dialed 9 = .ok (.arraylength, 1) := by decide +kernel
theorem d_Coast_dialed_10 : decode b_Coast_dialed 10 = .ok (.if_icmp .ge 12, 3) := by decide +kernel
theorem d_Coast_dialed_13 : decode b_Coast_dialed 13 = .ok (.aload_n 0, 1) := by decide +kernel
theorem d_Coast_dialed_14 : decode b_Coast_dialed 14 = .ok (.getfield 9, 3) := by decide +kernel
theorem d_Coast_dialed_17 : decode b_Coast_dialed 17 = .ok (.iload_n 1, 1) := by decide +kernel
theorem d_Coast_dialed_18 : decode b_Coast_dialed 18 = .ok (.iaload, 1) := by decide +kernel
theorem d_Coast_dialed_19 : decode b_Coast_dialed 19 = .ok (.goto 4, 3) := by decide +kernel
theorem d_Coast_dialed_22 : decode b_Coast_dialed 22 = .ok (.iconst 0, 1) := by decide +kernel
theorem d_Coast_dialed_23 : decode b_Coast_dialed 23 = .ok (.ireturn, 1) := by decide +kernel
theorem cy_Coast_dialed : zY y_Coast_dialed b_Coast_dialed 2 (some (FieldType.int)) 1 := ⟨kw_75, kw_2, by decide +kernel, by decide +kernel⟩
theorem d_Coast_turn_0 : decode b_Coast_turn 0 = .ok (.iload_n 1, 1) := by decide +kernel
theorem d_Coast_turn_1 : decode b_Coast_turn 1 = .ok (.ifCond .lt 19, 3) := by decide +kernel
theorem d_Coast_turn_4 : decode b_Coast_turn 4 = .ok (.iload_n 1, 1) := by decide +kernel
theorem d_Coast_turn_5 : decode b_Coast_turn 5 = .ok (.aload_n 0, 1) := by decide +kernel
theorem d_Coast_turn_6 : decode b_Coast_turn 6 = .ok (.getfield 9, 3) := by decide +kernel
theorem d_Coast_turn_9 : decode b_Coast_turn 9 = .ok (.arraylength, 1) := by decide +kernel
theorem d_Coast_turn_10 : decode b_Coast_turn 10 = .ok (.if_icmp .ge 10, 3) := by decide +kernel
theorem d_Coast_turn_13 : decode b_Coast_turn 13 = .ok (.aload_n 0, 1) := by decide +kernel
theorem d_Coast_turn_14 : decode b_Coast_turn 14 = .ok (.getfield 9, 3) := by decide +kernel
theorem d_Coast_turn_17 : decode b_Coast_turn 17 = .ok (.iload_n 1, 1) := by decide +kernel
theorem d_Coast_turn_18 : decode b_Coast_turn 18 = .ok (.iload_n 2, 1) := by decide +kernel
theorem d_Coast_turn_19 : decode b_Coast_turn 19 = .ok (.iastore, 1) := by decide +kernel
theorem d_Coast_turn_20 : decode b_Coast_turn 20 = .ok (.return_, 1) := by decide +kernel
theorem cy_Coast_turn : zY y_Coast_turn b_Coast_turn 3 none 2 := ⟨kw_79, kw_2, by decide +kernel, by decide +kernel⟩
theorem d_Coast_entry_0 : decode b_Coast_entry 0 = .ok (.iload_n 1, 1) := by decide +kernel
theorem d_Coast_entry_1 : decode b_Coast_entry 1 = .ok (.ifCond .lt 21, 3) := by decide +kernel
theorem d_Coast_entry_4 : decode b_Coast_entry 4 = .ok (.iload_n 1, 1) := by decide +kernel
theorem d_Coast_entry_5 : decode b_Coast_entry 5 = .ok (.aload_n 0, 1) := by decide +kernel
theorem d_Coast_entry_6 : decode b_Coast_entry 6 = .ok (.getfield 15, 3) := by decide +kernel
theorem d_Coast_entry_9 : decode b_Coast_entry 9 = .ok (.arraylength, 1) := by decide +kernel
theorem d_Coast_entry_10 : decode b_Coast_entry 10 = .ok (.if_icmp .ge 12, 3) := by decide +kernel
theorem d_Coast_entry_13 : decode b_Coast_entry 13 = .ok (.aload_n 0, 1) := by decide +kernel
theorem d_Coast_entry_14 : decode b_Coast_entry 14 = .ok (.getfield 15, 3) := by decide +kernel
theorem d_Coast_entry_17 : decode b_Coast_entry 17 = .ok (.iload_n 1, 1) := by decide +kernel
theorem d_Coast_entry_18 : decode b_Coast_entry 18 = .ok (.iaload, 1) := by decide +kernel
theorem d_Coast_entry_19 : decode b_Coast_entry 19 = .ok (.goto 4, 3) := by decide +kernel
theorem d_Coast_entry_22 : decode b_Coast_entry 22 = .ok (.iconst (-1), 1) := by decide +kernel
theorem d_Coast_entry_23 : decode b_Coast_entry 23 = .ok (.ireturn, 1) := by decide +kernel
theorem cy_Coast_entry : zY y_Coast_entry b_Coast_entry 2 (some (FieldType.int)) 1 := ⟨kw_523, kw_2, by decide +kernel, by decide +kernel⟩
theorem d_Coast_wipe_0 : decode b_Coast_wipe 0 = .ok (.aload_n 0, 1) := by decide +kernel
theorem d_Coast_wipe_1 : decode b_Coast_wipe 1 = .ok (.iconst 0, 1) := by decide +kernel
theorem d_Coast_wipe_2 : decode b_Coast_wipe 2 = .ok (.putfield 18, 3) := by decide +kernel
theorem d_Coast_wipe_5 : decode b_Coast_wipe 5 = .ok (.return_, 1) := by decide +kernel
theorem cy_Coast_wipe : zY y_Coast_wipe b_Coast_wipe 1 none 0 := ⟨kw_267, kw_2, by decide +kernel, by decide +kernel⟩
theorem d_Coast_begins_0 : decode b_Coast_begins 0 = .ok (.aload_n 0, 1) := by decide +kernel
theorem d_Coast_begins_1 : decode b_Coast_begins 1 = .ok (.getfield 18, 3) := by decide +kernel
theorem d_Coast_begins_4 : decode b_Coast_begins 4 = .ok (.ifCond .lt 40, 3) := by decide +kernel
theorem d_Coast_begins_7 : decode b_Coast_begins 7 = .ok (.aload_n 0, 1) := by decide +kernel
theorem d_Coast_begins_8 : decode b_Coast_begins 8 = .ok (.getfield 18, 3) := by decide +kernel
theorem d_Coast_begins_11 : decode b_Coast_begins 11 = .ok (.aload_n 0, 1) := by decide +kernel
theorem d_Coast_begins_12 : decode b_Coast_begins 12 = .ok (.getfield 15, 3) := by decide +kernel
theorem d_Coast_begins_15 : decode b_Coast_begins 15 = .ok (.arraylength, 1) := by decide +kernel
theorem d_Coast_begins_16 : decode b_Coast_begins 16 = .ok (.if_icmp .ge 28, 3) := by decide +kernel
theorem d_Coast_begins_19 : decode b_Coast_begins 19 = .ok (.aload_n 0, 1) := by decide +kernel
theorem d_Coast_begins_20 : decode b_Coast_begins 20 = .ok (.getfield 15, 3) := by decide +kernel
theorem d_Coast_begins_23 : decode b_Coast_begins 23 = .ok (.aload_n 0, 1) := by decide +kernel
theorem d_Coast_begins_24 : decode b_Coast_begins 24 = .ok (.getfield 18, 3) := by decide +kernel
theorem d_Coast_begins_27 : decode b_Coast_begins 27 = .ok (.bipush 10, 2) := by decide +kernel
theorem d_Coast_begins_29 : decode b_Coast_begins 29 = .ok (.iload_n 1, 1) := by decide +kernel
theorem d_Coast_begins_30 : decode b_Coast_begins 30 = .ok (.imul, 1) := by decide +kernel
theorem d_Coast_begins_31 : decode b_Coast_begins 31 = .ok (.iload_n 2, 1) := by decide +kernel
theorem d_Coast_begins_32 : decode b_Coast_begins 32 = .ok (.iadd, 1) := by decide +kernel
theorem d_Coast_begins_33 : decode b_Coast_begins 33 = .ok (.iastore, 1) := by decide +kernel
theorem d_Coast_begins_34 : decode b_Coast_begins 34 = .ok (.aload_n 0, 1) := by decide +kernel
theorem d_Coast_begins_35 : decode b_Coast_begins 35 = .ok (.dup, 1) := by decide +kernel
theorem d_Coast_begins_36 : decode b_Coast_begins 36 = .ok (.getfield 18, 3) := by decide +kernel
theorem d_Coast_begins_39 : decode b_Coast_begins 39 = .ok (.iconst 1, 1) := by decide +kernel
theorem d_Coast_begins_40 : decode b_Coast_begins 40 = .ok (.iadd, 1) := by decide +kernel
theorem d_Coast_begins_41 : decode b_Coast_begins 41 = .ok (.putfield 18, 3) := by decide +kernel
theorem d_Coast_begins_44 : decode b_Coast_begins 44 = .ok (.return_, 1) := by decide +kernel
theorem cy_Coast_begins : zY y_Coast_begins b_Coast_begins 3 none 2 := ⟨kw_295, kw_2, by decide +kernel, by decide +kernel⟩
theorem d_Drum_init_0 : decode b_Drum_init 0 = .ok (.aload_n 0, 1) := by decide +kernel
theorem d_Drum_init_1 : decode b_Drum_init 1 = .ok (.aload_n 1, 1) := by decide +kernel
theorem d_Drum_init_2 : decode b_Drum_init 2 = .ok (.iload_n 2, 1) := by decide +kernel
theorem d_Drum_init_3 : decode b_Drum_init 3 = .ok (.iload_n 3, 1) := by decide +kernel
theorem d_Drum_init_4 : decode b_Drum_init 4 = .ok (.invokespecial 3, 3) := by decide +kernel
theorem d_Drum_init_7 : decode b_Drum_init 7 = .ok (.return_, 1) := by decide +kernel
theorem cy_Drum_init : zY y_Drum_init b_Drum_init 4 none 3 := ⟨kw_177, kw_8, by decide +kernel, by decide +kernel⟩
theorem d_Drum_reach_0 : decode b_Drum_reach 0 = .ok (.aload_n 0, 1) := by decide +kernel
theorem d_Drum_reach_1 : decode b_Drum_reach 1 = .ok (.getfield 9, 3) := by decide +kernel
theorem d_Drum_reach_4 : decode b_Drum_reach 4 = .ok (.iconst 4, 1) := by decide +kernel
theorem d_Drum_reach_5 : decode b_Drum_reach 5 = .ok (.iconst 1, 1) := by decide +kernel
theorem d_Drum_reach_6 : decode b_Drum_reach 6 = .ok (.invokevirtual 15, 3) := by decide +kernel
theorem d_Drum_reach_9 : decode b_Drum_reach 9 = .ok (.aload_n 0, 1) := by decide +kernel
theorem d_Drum_reach_10 : decode b_Drum_reach 10 = .ok (.iload_n 1, 1) := by decide +kernel
theorem d_Drum_reach_11 : decode b_Drum_reach 11 = .ok (.invokespecial 21, 3) := by decide +kernel
theorem d_Drum_reach_14 : decode b_Drum_reach 14 = .ok (.bipush 20, 2) := by decide +kernel
theorem d_Drum_reach_16 : decode b_Drum_reach 16 = .ok (.invokestatic 25, 3) := by decide +kernel
theorem d_Drum_reach_19 : decode b_Drum_reach 19 = .ok (.ireturn, 1) := by decide +kernel
theorem cy_Drum_reach : zY y_Drum_reach b_Drum_reach 2 (some (FieldType.int)) 1 := ⟨kw_352, kw_8, by decide +kernel, by decide +kernel⟩
theorem d_Drum_tend_0 : decode b_Drum_tend 0 = .ok (.aload_n 0, 1) := by decide +kernel
theorem d_Drum_tend_1 : decode b_Drum_tend 1 = .ok (.getfield 9, 3) := by decide +kernel
theorem d_Drum_tend_4 : decode b_Drum_tend 4 = .ok (.iconst 4, 1) := by decide +kernel
theorem d_Drum_tend_5 : decode b_Drum_tend 5 = .ok (.iconst 3, 1) := by decide +kernel
theorem d_Drum_tend_6 : decode b_Drum_tend 6 = .ok (.invokevirtual 15, 3) := by decide +kernel
theorem d_Drum_tend_9 : decode b_Drum_tend 9 = .ok (.aload_n 0, 1) := by decide +kernel
theorem d_Drum_tend_10 : decode b_Drum_tend 10 = .ok (.iload_n 1, 1) := by decide +kernel
theorem d_Drum_tend_11 : decode b_Drum_tend 11 = .ok (.aload_n 0, 1) := by decide +kernel
theorem d_Drum_tend_12 : decode b_Drum_tend 12 = .ok (.getfield 9, 3) := by decide +kernel
theorem d_Drum_tend_15 : decode b_Drum_tend 15 = .ok (.iconst 3, 1) := by decide +kernel
theorem d_Drum_tend_16 : decode b_Drum_tend 16 = .ok (.invokevirtual 31, 3) := by decide +kernel
theorem d_Drum_tend_19 : decode b_Drum_tend 19 = .ok (.iadd, 1) := by decide +kernel
theorem d_Drum_tend_20 : decode b_Drum_tend 20 = .ok (.invokespecial 34, 3) := by decide +kernel
theorem d_Drum_tend_23 : decode b_Drum_tend 23 = .ok (.ireturn, 1) := by decide +kernel
theorem cy_Drum_tend : zY y_Drum_tend b_Drum_tend 2 (some (FieldType.int)) 1 := ⟨kw_418, kw_8, by decide +kernel, by decide +kernel⟩
theorem d_Drum_rank_0 : decode b_Drum_rank 0 = .ok (.aload_n 0, 1) := by decide +kernel
theorem d_Drum_rank_1 : decode b_Drum_rank 1 = .ok (.getfield 9, 3) := by decide +kernel
theorem d_Drum_rank_4 : decode b_Drum_rank 4 = .ok (.iconst 4, 1) := by decide +kernel
theorem d_Drum_rank_5 : decode b_Drum_rank 5 = .ok (.iconst 4, 1) := by decide +kernel
theorem d_Drum_rank_6 : decode b_Drum_rank 6 = .ok (.invokevirtual 15, 3) := by decide +kernel
theorem d_Drum_rank_9 : decode b_Drum_rank 9 = .ok (.iconst 2, 1) := by decide +kernel
theorem d_Drum_rank_10 : decode b_Drum_rank 10 = .ok (.aload_n 0, 1) := by decide +kernel
theorem d_Drum_rank_11 : decode b_Drum_rank 11 = .ok (.invokespecial 37, 3) := by decide +kernel
theorem d_Drum_rank_14 : decode b_Drum_rank 14 = .ok (.imul, 1) := by decide +kernel
theorem d_Drum_rank_15 : decode b_Drum_rank 15 = .ok (.ireturn, 1) := by decide +kernel
theorem cy_Drum_rank : zY y_Drum_rank b_Drum_rank 1 (some (FieldType.int)) 0 := ⟨kw_447, kw_8, by decide +kernel, by decide +kernel⟩
theorem d_Drum_tone_0 : decode b_Drum_tone 0 = .ok (.aload_n 0, 1) := by decide +kernel
theorem d_Drum_tone_1 : decode b_Drum_tone 1 = .ok (.getfield 9, 3) := by decide +kernel
theorem d_Drum_tone_4 : decode b_Drum_tone 4 = .ok (.iconst 4, 1) := by decide +kernel
theorem d_Drum_tone_5 : decode b_Drum_tone 5 = .ok (.bipush 6, 2) := by decide +kernel
theorem d_Drum_tone_7 : decode b_Drum_tone 7 = .ok (.invokevirtual 15, 3) := by decide +kernel
theorem d_Drum_tone_10 : decode b_Drum_tone 10 = .ok (.aload_n 0, 1) := by decide +kernel
theorem d_Drum_tone_11 : decode b_Drum_tone 11 = .ok (.invokespecial 41, 3) := by decide +kernel
theorem d_Drum_tone_14 : decode b_Drum_tone 14 = .ok (.aload_n 0, 1) := by decide +kernel
theorem d_Drum_tone_15 : decode b_Drum_tone 15 = .ok (.getfield 9, 3) := by decide +kernel
theorem d_Drum_tone_18 : decode b_Drum_tone 18 = .ok (.iconst 5, 1) := by decide +kernel
theorem d_Drum_tone_19 : decode b_Drum_tone 19 = .ok (.invokevirtual 31, 3) := by decide +kernel
theorem d_Drum_tone_22 : decode b_Drum_tone 22 = .ok (.iadd, 1) := by decide +kernel
theorem d_Drum_tone_23 : decode b_Drum_tone 23 = .ok (.ireturn, 1) := by decide +kernel
theorem cy_Drum_tone : zY y_Drum_tone b_Drum_tone 1 (some (FieldType.int)) 0 := ⟨kw_485, kw_8, by decide +kernel, by decide +kernel⟩
theorem d_Flare_init_0 : decode b_Flare_init 0 = .ok (.aload_n 0, 1) := by decide +kernel
theorem d_Flare_init_1 : decode b_Flare_init 1 = .ok (.aload_n 1, 1) := by decide +kernel
theorem d_Flare_init_2 : decode b_Flare_init 2 = .ok (.iload_n 2, 1) := by decide +kernel
theorem d_Flare_init_3 : decode b_Flare_init 3 = .ok (.iload_n 3, 1) := by decide +kernel
theorem d_Flare_init_4 : decode b_Flare_init 4 = .ok (.invokespecial 3, 3) := by decide +kernel
theorem d_Flare_init_7 : decode b_Flare_init 7 = .ok (.return_, 1) := by decide +kernel
theorem cy_Flare_init : zY y_Flare_init b_Flare_init 4 none 3 := ⟨kw_216, kw_11, by decide +kernel, by decide +kernel⟩
theorem d_Flare_horned_0 : decode b_Flare_horned 0 = .ok (.iconst 1, 1) := by decide +kernel
theorem d_Flare_horned_1 : decode b_Flare_horned 1 = .ok (.ireturn, 1) := by decide +kernel
theorem cy_Flare_horned : zY y_Flare_horned b_Flare_horned 1 (some (FieldType.boolean)) 0 := ⟨kw_273, kw_11, by decide +kernel, by decide +kernel⟩
theorem d_Flare_burn_0 : decode b_Flare_burn 0 = .ok (.aload_n 0, 1) := by decide +kernel
theorem d_Flare_burn_1 : decode b_Flare_burn 1 = .ok (.getfield 9, 3) := by decide +kernel
theorem d_Flare_burn_4 : decode b_Flare_burn 4 = .ok (.bipush 7, 2) := by decide +kernel
theorem d_Flare_burn_6 : decode b_Flare_burn 6 = .ok (.iconst 0, 1) := by decide +kernel
theorem d_Flare_burn_7 : decode b_Flare_burn 7 = .ok (.invokevirtual 15, 3) := by decide +kernel
theorem d_Flare_burn_10 : decode b_Flare_burn 10 = .ok (.aload_n 0, 1) := by decide +kernel
theorem d_Flare_burn_11 : decode b_Flare_burn 11 = .ok (.iload_n 1, 1) := by decide +kernel
theorem d_Flare_burn_12 : decode b_Flare_burn 12 = .ok (.iconst 2, 1) := by decide +kernel
theorem d_Flare_burn_13 : decode b_Flare_burn 13 = .ok (.idiv, 1) := by decide +kernel
theorem d_Flare_burn_14 : decode b_Flare_burn 14 = .ok (.invokespecial 21, 3) := by decide +kernel
theorem d_Flare_burn_17 : decode b_Flare_burn 17 = .ok (.ireturn, 1) := by decide +kernel
theorem cy_Flare_burn : zY y_Flare_burn b_Flare_burn 2 (some (FieldType.int)) 1 := ⟨kw_291, kw_11, by decide +kernel, by decide +kernel⟩
theorem d_Flare_flash_0 : decode b_Flare_flash 0 = .ok (.aload_n 0, 1) := by decide +kernel
theorem d_Flare_flash_1 : decode b_Flare_flash 1 = .ok (.getfield 9, 3) := by decide +kernel
theorem d_Flare_flash_4 : decode b_Flare_flash 4 = .ok (.bipush 7, 2) := by decide +kernel
theorem d_Flare_flash_6 : decode b_Flare_flash 6 = .ok (.iconst 2, 1) := by decide +kernel
theorem d_Flare_flash_7 : decode b_Flare_flash 7 = .ok (.invokevirtual 15, 3) := by decide +kernel
theorem d_Flare_flash_10 : decode b_Flare_flash 10 = .ok (.iload_n 1, 1) := by decide +kernel
theorem d_Flare_flash_11 : decode b_Flare_flash 11 = .ok (.iconst 1, 1) := by decide +kernel
theorem d_Flare_flash_12 : decode b_Flare_flash 12 = .ok (.iand, 1) := by decide +kernel
theorem d_Flare_flash_13 : decode b_Flare_flash 13 = .ok (.ifCond .ne 11, 3) := by decide +kernel
theorem d_Flare_flash_16 : decode b_Flare_flash 16 = .ok (.aload_n 0, 1) := by decide +kernel
theorem d_Flare_flash_17 : decode b_Flare_flash 17 = .ok (.iload_n 1, 1) := by decide +kernel
theorem d_Flare_flash_18 : decode b_Flare_flash 18 = .ok (.invokespecial 25, 3) := by decide +kernel
theorem d_Flare_flash_21 : decode b_Flare_flash 21 = .ok (.goto 4, 3) := by decide +kernel
theorem d_Flare_flash_24 : decode b_Flare_flash 24 = .ok (.iconst 0, 1) := by decide +kernel
theorem d_Flare_flash_25 : decode b_Flare_flash 25 = .ok (.ireturn, 1) := by decide +kernel
theorem cy_Flare_flash : zY y_Flare_flash b_Flare_flash 2 (some (FieldType.int)) 1 := ⟨kw_379, kw_11, by decide +kernel, by decide +kernel⟩
theorem d_Flare_rank_0 : decode b_Flare_rank 0 = .ok (.aload_n 0, 1) := by decide +kernel
theorem d_Flare_rank_1 : decode b_Flare_rank 1 = .ok (.getfield 9, 3) := by decide +kernel
theorem d_Flare_rank_4 : decode b_Flare_rank 4 = .ok (.bipush 7, 2) := by decide +kernel
theorem d_Flare_rank_6 : decode b_Flare_rank 6 = .ok (.iconst 4, 1) := by decide +kernel
theorem d_Flare_rank_7 : decode b_Flare_rank 7 = .ok (.invokevirtual 15, 3) := by decide +kernel
theorem d_Flare_rank_10 : decode b_Flare_rank 10 = .ok (.aload_n 0, 1) := by decide +kernel
theorem d_Flare_rank_11 : decode b_Flare_rank 11 = .ok (.invokespecial 28, 3) := by decide +kernel
theorem d_Flare_rank_14 : decode b_Flare_rank 14 = .ok (.aload_n 0, 1) := by decide +kernel
theorem d_Flare_rank_15 : decode b_Flare_rank 15 = .ok (.getfield 32, 3) := by decide +kernel
theorem d_Flare_rank_18 : decode b_Flare_rank 18 = .ok (.iconst 5, 1) := by decide +kernel
theorem d_Flare_rank_19 : decode b_Flare_rank 19 = .ok (.irem, 1) := by decide +kernel
theorem d_Flare_rank_20 : decode b_Flare_rank 20 = .ok (.iadd, 1) := by decide +kernel
theorem d_Flare_rank_21 : decode b_Flare_rank 21 = .ok (.ireturn, 1) := by decide +kernel
theorem cy_Flare_rank : zY y_Flare_rank b_Flare_rank 1 (some (FieldType.int)) 0 := ⟨kw_441, kw_11, by decide +kernel, by decide +kernel⟩
theorem d_Flare_tone_0 : decode b_Flare_tone 0 = .ok (.aload_n 0, 1) := by decide +kernel
theorem d_Flare_tone_1 : decode b_Flare_tone 1 = .ok (.getfield 9, 3) := by decide +kernel
theorem d_Flare_tone_4 : decode b_Flare_tone 4 = .ok (.bipush 7, 2) := by decide +kernel
theorem d_Flare_tone_6 : decode b_Flare_tone 6 = .ok (.bipush 6, 2) := by decide +kernel
theorem d_Flare_tone_8 : decode b_Flare_tone 8 = .ok (.invokevirtual 15, 3) := by decide +kernel
theorem d_Flare_tone_11 : decode b_Flare_tone 11 = .ok (.bipush 9, 2) := by decide +kernel
theorem d_Flare_tone_13 : decode b_Flare_tone 13 = .ok (.ireturn, 1) := by decide +kernel
theorem cy_Flare_tone : zY y_Flare_tone b_Flare_tone 1 (some (FieldType.int)) 0 := ⟨kw_498, kw_11, by decide +kernel, by decide +kernel⟩
theorem d_Gas_init_0 : decode b_Gas_init 0 = .ok (.aload_n 0, 1) := by decide +kernel
theorem d_Gas_init_1 : decode b_Gas_init 1 = .ok (.aload_n 1, 1) := by decide +kernel
theorem d_Gas_init_2 : decode b_Gas_init 2 = .ok (.iload_n 2, 1) := by decide +kernel
theorem d_Gas_init_3 : decode b_Gas_init 3 = .ok (.iload_n 3, 1) := by decide +kernel
theorem d_Gas_init_4 : decode b_Gas_init 4 = .ok (.invokespecial 3, 3) := by decide +kernel
theorem d_Gas_init_7 : decode b_Gas_init 7 = .ok (.return_, 1) := by decide +kernel
theorem cy_Gas_init : zY y_Gas_init b_Gas_init 4 none 3 := ⟨kw_203, kw_10, by decide +kernel, by decide +kernel⟩
theorem d_Gas_reach_0 : decode b_Gas_reach 0 = .ok (.aload_n 0, 1) := by decide +kernel
theorem d_Gas_reach_1 : decode b_Gas_reach 1 = .ok (.getfield 9, 3) := by decide +kernel
theorem d_Gas_reach_4 : decode b_Gas_reach 4 = .ok (.bipush 6, 2) := by decide +kernel
theorem d_Gas_reach_6 : decode b_Gas_reach 6 = .ok (.iconst 1, 1) := by decide +kernel
theorem d_Gas_reach_7 : decode b_Gas_reach 7 = .ok (.invokevirtual 15, 3) := by decide +kernel
theorem d_Gas_reach_10 : decode b_Gas_reach 10 = .ok (.aload_n 0, 1) := by decide +kernel
theorem d_Gas_reach_11 : decode b_Gas_reach 11 = .ok (.iload_n 1, 1) := by decide +kernel
theorem d_Gas_reach_12 : decode b_Gas_reach 12 = .ok (.invokespecial 21, 3) := by decide +kernel
theorem d_Gas_reach_15 : decode b_Gas_reach 15 = .ok (.aload_n 0, 1) := by decide +kernel
theorem d_Gas_reach_16 : decode b_Gas_reach 16 = .ok (.getfield 25, 3) := by decide +kernel
theorem d_Gas_reach_19 : decode b_Gas_reach 19 = .ok (.bipush 10, 2) := by decide +kernel
theorem d_Gas_reach_21 : decode b_Gas_reach 21 = .ok (.idiv, 1) := by decide +kernel
theorem d_Gas_reach_22 : decode b_Gas_reach 22 = .ok (.isub, 1) := by decide +kernel
theorem d_Gas_reach_23 : decode b_Gas_reach 23 = .ok (.ireturn, 1) := by decide +kernel
theorem cy_Gas_reach : zY y_Gas_reach b_Gas_reach 2 (some (FieldType.int)) 1 := ⟨kw_347, kw_10, by decide +kernel, by decide +kernel⟩
theorem d_Lamp_init_0 : decode b_Lamp_init 0 = .ok (.aload_n 0, 1) := by decide +kernel
theorem d_Lamp_init_1 : decode b_Lamp_init 1 = .ok (.invokespecial 3, 3) := by decide +kernel
theorem d_Lamp_init_4 : decode b_Lamp_init 4 = .ok (.aload_n 0, 1) := by decide +kernel
theorem d_Lamp_init_5 : decode b_Lamp_init 5 = .ok (.aload_n 1, 1) := by decide +kernel
theorem d_Lamp_init_6 : decode b_Lamp_init 6 = .ok (.putfield 9, 3) := by decide +kernel
theorem d_Lamp_init_9 : decode b_Lamp_init 9 = .ok (.aload_n 0, 1) := by decide +kernel
theorem d_Lamp_init_10 : decode b_Lamp_init 10 = .ok (.iload_n 2, 1) := by decide +kernel
theorem d_Lamp_init_11 : decode b_Lamp_init 11 = .ok (.putfield 15, 3) := by decide +kernel
theorem d_Lamp_init_14 : decode b_Lamp_init 14 = .ok (.aload_n 0, 1) := by decide +kernel
theorem d_Lamp_init_15 : decode b_Lamp_init 15 = .ok (.iload_n 3, 1) := by decide +kernel
theorem d_Lamp_init_16 : decode b_Lamp_init 16 = .ok (.putfield 19, 3) := by decide +kernel
theorem d_Lamp_init_19 : decode b_Lamp_init 19 = .ok (.return_, 1) := by decide +kernel
theorem cy_Lamp_init : zY y_Lamp_init b_Lamp_init 4 none 3 := ⟨kw_95, kw_4, by decide +kernel, by decide +kernel⟩
theorem d_Lamp_drain_0 : decode b_Lamp_drain 0 = .ok (.aload_n 0, 1) := by decide +kernel
theorem d_Lamp_drain_1 : decode b_Lamp_drain 1 = .ok (.getfield 22, 3) := by decide +kernel
theorem d_Lamp_drain_4 : decode b_Lamp_drain 4 = .ok (.iload_n 1, 1) := by decide +kernel
theorem d_Lamp_drain_5 : decode b_Lamp_drain 5 = .ok (.if_icmp .le 16, 3) := by decide +kernel
theorem d_Lamp_drain_8 : decode b_Lamp_drain 8 = .ok (.aload_n 0, 1) := by decide +kernel
theorem d_Lamp_drain_9 : decode b_Lamp_drain 9 = .ok (.dup, 1) := by decide +kernel
theorem d_Lamp_drain_10 : decode b_Lamp_drain 10 = .ok (.getfield 22, 3) := by decide +kernel
theorem d_Lamp_drain_13 : decode b_Lamp_drain 13 = .ok (.iload_n 1, 1) := by decide +kernel
theorem d_Lamp_drain_14 : decode b_Lamp_drain 14 = .ok (.isub, 1) := by decide +kernel
theorem d_Lamp_drain_15 : decode b_Lamp_drain 15 = .ok (.putfield 22, 3) := by decide +kernel
theorem d_Lamp_drain_18 : decode b_Lamp_drain 18 = .ok (.goto 13, 3) := by decide +kernel
theorem d_Lamp_drain_21 : decode b_Lamp_drain 21 = .ok (.aload_n 0, 1) := by decide +kernel
theorem d_Lamp_drain_22 : decode b_Lamp_drain 22 = .ok (.iconst 0, 1) := by decide +kernel
theorem d_Lamp_drain_23 : decode b_Lamp_drain 23 = .ok (.putfield 22, 3) := by decide +kernel
theorem d_Lamp_drain_26 : decode b_Lamp_drain 26 = .ok (.aload_n 0, 1) := by decide +kernel
theorem d_Lamp_drain_27 : decode b_Lamp_drain 27 = .ok (.iconst 0, 1) := by decide +kernel
theorem d_Lamp_drain_28 : decode b_Lamp_drain 28 = .ok (.putfield 25, 3) := by decide +kernel
theorem d_Lamp_drain_31 : decode b_Lamp_drain 31 = .ok (.return_, 1) := by decide +kernel
theorem cy_Lamp_drain : zY y_Lamp_drain b_Lamp_drain 2 none 1 := ⟨kw_559, kw_4, by decide +kernel, by decide +kernel⟩
theorem d_Lamp_horned_0 : decode b_Lamp_horned 0 = .ok (.iconst 0, 1) := by decide +kernel
theorem d_Lamp_horned_1 : decode b_Lamp_horned 1 = .ok (.ireturn, 1) := by decide +kernel
theorem cy_Lamp_horned : zY y_Lamp_horned b_Lamp_horned 1 (some (FieldType.boolean)) 0 := ⟨kw_284, kw_4, by decide +kernel, by decide +kernel⟩
theorem d_Lamp_burn_0 : decode b_Lamp_burn 0 = .ok (.aload_n 0, 1) := by decide +kernel
theorem d_Lamp_burn_1 : decode b_Lamp_burn 1 = .ok (.getfield 9, 3) := by decide +kernel
theorem d_Lamp_burn_4 : decode b_Lamp_burn 4 = .ok (.iconst 0, 1) := by decide +kernel
theorem d_Lamp_burn_5 : decode b_Lamp_burn 5 = .ok (.iconst 0, 1) := by decide +kernel
theorem d_Lamp_burn_6 : decode b_Lamp_burn 6 = .ok (.invokevirtual 29, 3) := by decide +kernel
theorem d_Lamp_burn_9 : decode b_Lamp_burn 9 = .ok (.aload_n 0, 1) := by decide +kernel
theorem d_Lamp_burn_10 : decode b_Lamp_burn 10 = .ok (.dup, 1) := by decide +kernel
theorem d_Lamp_burn_11 : decode b_Lamp_burn 11 = .ok (.getfield 35, 3) := by decide +kernel
theorem d_Lamp_burn_14 : decode b_Lamp_burn 14 = .ok (.iload_n 1, 1) := by decide +kernel
theorem d_Lamp_burn_15 : decode b_Lamp_burn 15 = .ok (.iadd, 1) := by decide +kernel
theorem d_Lamp_burn_16 : decode b_Lamp_burn 16 = .ok (.putfield 35, 3) := by decide +kernel
theorem d_Lamp_burn_19 : decode b_Lamp_burn 19 = .ok (.iload_n 1, 1) := by decide +kernel
theorem d_Lamp_burn_20 : decode b_Lamp_burn 20 = .ok (.aload_n 0, 1) := by decide +kernel
theorem d_Lamp_burn_21 : decode b_Lamp_burn 21 = .ok (.getfield 9, 3) := by decide +kernel
theorem d_Lamp_burn_24 : decode b_Lamp_burn 24 = .ok (.iconst 0, 1) := by decide +kernel
theorem d_Lamp_burn_25 : decode b_Lamp_burn 25 = .ok (.invokevirtual 38, 3) := by decide +kernel
theorem d_Lamp_burn_28 : decode b_Lamp_burn 28 = .ok (.imul, 1) := by decide +kernel
theorem d_Lamp_burn_29 : decode b_Lamp_burn 29 = .ok (.iconst 1, 1) := by decide +kernel
theorem d_Lamp_burn_30 : decode b_Lamp_burn 30 = .ok (.iadd, 1) := by decide +kernel
theorem d_Lamp_burn_31 : decode b_Lamp_burn 31 = .ok (.ireturn, 1) := by decide +kernel
theorem cy_Lamp_burn : zY y_Lamp_burn b_Lamp_burn 2 (some (FieldType.int)) 1 := ⟨kw_333, kw_4, by decide +kernel, by decide +kernel⟩
theorem d_Lamp_reach_0 : decode b_Lamp_reach 0 = .ok (.aload_n 0, 1) := by decide +kernel
theorem d_Lamp_reach_1 : decode b_Lamp_reach 1 = .ok (.getfield 9, 3) := by decide +kernel
theorem d_Lamp_reach_4 : decode b_Lamp_reach 4 = .ok (.iconst 0, 1) := by decide +kernel
theorem d_Lamp_reach_5 : decode b_Lamp_reach 5 = .ok (.iconst 1, 1) := by decide +kernel
theorem d_Lamp_reach_6 : decode b_Lamp_reach 6 = .ok (.invokevirtual 29, 3) := by decide +kernel
theorem d_Lamp_reach_9 : decode b_Lamp_reach 9 = .ok (.aload_n 0, 1) := by decide +kernel
theorem d_Lamp_reach_10 : decode b_Lamp_reach 10 = .ok (.getfield 19, 3) := by decide +kernel
theorem d_Lamp_reach_13 : decode b_Lamp_reach 13 = .ok (.bipush 10, 2) := by decide +kernel
theorem d_Lamp_reach_15 : decode b_Lamp_reach 15 = .ok (.idiv, 1) := by decide +kernel
theorem d_Lamp_reach_16 : decode b_Lamp_reach 16 = .ok (.bipush 30, 2) := by decide +kernel
theorem d_Lamp_reach_18 : decode b_Lamp_reach 18 = .ok (.iadd, 1) := by decide +kernel
theorem d_Lamp_reach_19 : decode b_Lamp_reach 19 = .ok (.iconst 3, 1) := by decide +kernel
theorem d_Lamp_reach_20 : decode b_Lamp_reach 20 = .ok (.iload_n 1, 1) := by decide +kernel
theorem d_Lamp_reach_21 : decode b_Lamp_reach 21 = .ok (.imul, 1) := by decide +kernel
theorem d_Lamp_reach_22 : decode b_Lamp_reach 22 = .ok (.isub, 1) := by decide +kernel
theorem d_Lamp_reach_23 : decode b_Lamp_reach 23 = .ok (.ireturn, 1) := by decide +kernel
theorem cy_Lamp_reach : zY y_Lamp_reach b_Lamp_reach 2 (some (FieldType.int)) 1 := ⟨kw_373, kw_4, by decide +kernel, by decide +kernel⟩
theorem d_Lamp_flash_0 : decode b_Lamp_flash 0 = .ok (.aload_n 0, 1) := by decide +kernel
theorem d_Lamp_flash_1 : decode b_Lamp_flash 1 = .ok (.getfield 9, 3) := by decide +kernel
theorem d_Lamp_flash_4 : decode b_Lamp_flash 4 = .ok (.iconst 0, 1) := by decide +kernel
theorem d_Lamp_flash_5 : decode b_Lamp_flash 5 = .ok (.iconst 2, 1) := by decide +kernel
theorem d_Lamp_flash_6 : decode b_Lamp_flash 6 = .ok (.invokevirtual 29, 3) := by decide +kernel
theorem d_Lamp_flash_9 : decode b_Lamp_flash 9 = .ok (.bipush 100, 2) := by decide +kernel
theorem d_Lamp_flash_11 : decode b_Lamp_flash 11 = .ok (.ireturn, 1) := by decide +kernel
theorem cy_Lamp_flash : zY y_Lamp_flash b_Lamp_flash 2 (some (FieldType.int)) 1 := ⟨kw_405, kw_4, by decide +kernel, by decide +kernel⟩
theorem d_Lamp_tend_0 : decode b_Lamp_tend 0 = .ok (.aload_n 0, 1) := by decide +kernel
theorem d_Lamp_tend_1 : decode b_Lamp_tend 1 = .ok (.getfield 9, 3) := by decide +kernel
theorem d_Lamp_tend_4 : decode b_Lamp_tend 4 = .ok (.iconst 0, 1) := by decide +kernel
theorem d_Lamp_tend_5 : decode b_Lamp_tend 5 = .ok (.iconst 3, 1) := by decide +kernel
theorem d_Lamp_tend_6 : decode b_Lamp_tend 6 = .ok (.invokevirtual 29, 3) := by decide +kernel
theorem d_Lamp_tend_9 : decode b_Lamp_tend 9 = .ok (.aload_n 0, 1) := by decide +kernel
theorem d_Lamp_tend_10 : decode b_Lamp_tend 10 = .ok (.aload_n 0, 1) := by decide +kernel
theorem d_Lamp_tend_11 : decode b_Lamp_tend 11 = .ok (.getfield 35, 3) := by decide +kernel
theorem d_Lamp_tend_14 : decode b_Lamp_tend 14 = .ok (.iload_n 1, 1) := by decide +kernel
theorem d_Lamp_tend_15 : decode b_Lamp_tend 15 = .ok (.isub, 1) := by decide +kernel
theorem d_Lamp_tend_16 : decode b_Lamp_tend 16 = .ok (.iconst 0, 1) := by decide +kernel
theorem d_Lamp_tend_17 : decode b_Lamp_tend 17 = .ok (.invokestatic 42, 3) := by decide +kernel
theorem d_Lamp_tend_20 : decode b_Lamp_tend 20 = .ok (.putfield 35, 3) := by decide +kernel
theorem d_Lamp_tend_23 : decode b_Lamp_tend 23 = .ok (.aload_n 0, 1) := by decide +kernel
theorem d_Lamp_tend_24 : decode b_Lamp_tend 24 = .ok (.getfield 35, 3) := by decide +kernel
theorem d_Lamp_tend_27 : decode b_Lamp_tend 27 = .ok (.ireturn, 1) := by decide +kernel
theorem cy_Lamp_tend : zY y_Lamp_tend b_Lamp_tend 2 (some (FieldType.int)) 1 := ⟨kw_434, kw_4, by decide +kernel, by decide +kernel⟩
theorem d_Lamp_rank_0 : decode b_Lamp_rank 0 = .ok (.aload_n 0, 1) := by decide +kernel
theorem d_Lamp_rank_1 : decode b_Lamp_rank 1 = .ok (.getfield 9, 3) := by decide +kernel
theorem d_Lamp_rank_4 : decode b_Lamp_rank 4 = .ok (.iconst 0, 1) := by decide +kernel
theorem d_Lamp_rank_5 : decode b_Lamp_rank 5 = .ok (.iconst 4, 1) := by decide +kernel
theorem d_Lamp_rank_6 : decode b_Lamp_rank 6 = .ok (.invokevirtual 29, 3) := by decide +kernel
theorem d_Lamp_rank_9 : decode b_Lamp_rank 9 = .ok (.aload_n 0, 1) := by decide +kernel
theorem d_Lamp_rank_10 : decode b_Lamp_rank 10 = .ok (.getfield 19, 3) := by decide +kernel
theorem d_Lamp_rank_13 : decode b_Lamp_rank 13 = .ok (.bipush 9, 2) := by decide +kernel
theorem d_Lamp_rank_15 : decode b_Lamp_rank 15 = .ok (.irem, 1) := by decide +kernel
theorem d_Lamp_rank_16 : decode b_Lamp_rank 16 = .ok (.ireturn, 1) := by decide +kernel
theorem cy_Lamp_rank : zY y_Lamp_rank b_Lamp_rank 1 (some (FieldType.int)) 0 := ⟨kw_466, kw_4, by decide +kernel, by decide +kernel⟩
theorem d_Lamp_horn_0 : decode b_Lamp_horn 0 = .ok (.aload_n 0, 1) := by decide +kernel
theorem d_Lamp_horn_1 : decode b_Lamp_horn 1 = .ok (.getfield 9, 3) := by decide +kernel
theorem d_Lamp_horn_4 : decode b_Lamp_horn 4 = .ok (.iconst 0, 1) := by decide +kernel
theorem d_Lamp_horn_5 : decode b_Lamp_horn 5 = .ok (.iconst 5, 1) := by decide +kernel
theorem d_Lamp_horn_6 : decode b_Lamp_horn 6 = .ok (.invokevirtual 29, 3) := by decide +kernel
theorem d_Lamp_horn_9 : decode b_Lamp_horn 9 = .ok (.aload_n 0, 1) := by decide +kernel
theorem d_Lamp_horn_10 : decode b_Lamp_horn 10 = .ok (.invokevirtual 48, 3) := by decide +kernel
theorem d_Lamp_horn_13 : decode b_Lamp_horn 13 = .ok (.iload_n 1, 1) := by decide +kernel
theorem d_Lamp_horn_14 : decode b_Lamp_horn 14 = .ok (.imul, 1) := by decide +kernel
theorem d_Lamp_horn_15 : decode b_Lamp_horn 15 = .ok (.istore_n 2, 1) := by decide +kernel
theorem d_Lamp_horn_16 : decode b_Lamp_horn 16 = .ok (.iload_n 2, 1) := by decide +kernel
theorem d_Lamp_horn_17 : decode b_Lamp_horn 17 = .ok (.aload_n 0, 1) := by decide +kernel
theorem d_Lamp_horn_18 : decode b_Lamp_horn 18 = .ok (.iconst 0, 1) := by decide +kernel
theorem d_Lamp_horn_19 : decode b_Lamp_horn 19 = .ok (.invokevirtual 52, 3) := by decide +kernel
theorem d_Lamp_horn_22 : decode b_Lamp_horn 22 = .ok (.iadd, 1) := by decide +kernel
theorem d_Lamp_horn_23 : decode b_Lamp_horn 23 = .ok (.ireturn, 1) := by decide +kernel
theorem cy_Lamp_horn : zY y_Lamp_horn b_Lamp_horn 3 (some (FieldType.int)) 1 := ⟨kw_492, kw_4, by decide +kernel, by decide +kernel⟩
theorem d_Lamp_tone_0 : decode b_Lamp_tone 0 = .ok (.iconst 0, 1) := by decide +kernel
theorem d_Lamp_tone_1 : decode b_Lamp_tone 1 = .ok (.ireturn, 1) := by decide +kernel
theorem cy_Lamp_tone : zY y_Lamp_tone b_Lamp_tone 1 (some (FieldType.int)) 0 := ⟨kw_513, kw_4, by decide +kernel, by decide +kernel⟩
theorem d_Oil_init_0 : decode b_Oil_init 0 = .ok (.aload_n 0, 1) := by decide +kernel
theorem d_Oil_init_1 : decode b_Oil_init 1 = .ok (.aload_n 1, 1) := by decide +kernel
theorem d_Oil_init_2 : decode b_Oil_init 2 = .ok (.iload_n 2, 1) := by decide +kernel
theorem d_Oil_init_3 : decode b_Oil_init 3 = .ok (.iload_n 3, 1) := by decide +kernel
theorem d_Oil_init_4 : decode b_Oil_init 4 = .ok (.invokespecial 3, 3) := by decide +kernel
theorem d_Oil_init_7 : decode b_Oil_init 7 = .ok (.return_, 1) := by decide +kernel
theorem cy_Oil_init : zY y_Oil_init b_Oil_init 4 none 3 := ⟨kw_92, kw_5, by decide +kernel, by decide +kernel⟩
theorem d_Oil_burn_0 : decode b_Oil_burn 0 = .ok (.aload_n 0, 1) := by decide +kernel
theorem d_Oil_burn_1 : decode b_Oil_burn 1 = .ok (.getfield 9, 3) := by decide +kernel
theorem d_Oil_burn_4 : decode b_Oil_burn 4 = .ok (.iconst 1, 1) := by decide +kernel
theorem d_Oil_burn_5 : decode b_Oil_burn 5 = .ok (.iconst 0, 1) := by decide +kernel
theorem d_Oil_burn_6 : decode b_Oil_burn 6 = .ok (.invokevirtual 15, 3) := by decide +kernel
theorem d_Oil_burn_9 : decode b_Oil_burn 9 = .ok (.aload_n 0, 1) := by decide +kernel
theorem d_Oil_burn_10 : decode b_Oil_burn 10 = .ok (.iload_n 1, 1) := by decide +kernel
theorem d_Oil_burn_11 : decode b_Oil_burn 11 = .ok (.invokespecial 21, 3) := by decide +kernel
theorem d_Oil_burn_14 : decode b_Oil_burn 14 = .ok (.istore_n 2, 1) := by decide +kernel
theorem d_Oil_burn_15 : decode b_Oil_burn 15 = .ok (.iload_n 2, 1) := by decide +kernel
theorem d_Oil_burn_16 : decode b_Oil_burn 16 = .ok (.aload_n 0, 1) := by decide +kernel
theorem d_Oil_burn_17 : decode b_Oil_burn 17 = .ok (.getfield 25, 3) := by decide +kernel
theorem d_Oil_burn_20 : decode b_Oil_burn 20 = .ok (.bipush 50, 2) := by decide +kernel
theorem d_Oil_burn_22 : decode b_Oil_burn 22 = .ok (.idiv, 1) := by decide +kernel
theorem d_Oil_burn_23 : decode b_Oil_burn 23 = .ok (.iadd, 1) := by decide +kernel
theorem d_Oil_burn_24 : decode b_Oil_burn 24 = .ok (.ireturn, 1) := by decide +kernel
theorem cy_Oil_burn : zY y_Oil_burn b_Oil_burn 3 (some (FieldType.int)) 1 := ⟨kw_307, kw_5, by decide +kernel, by decide +kernel⟩
theorem d_Oil_rank_0 : decode b_Oil_rank 0 = .ok (.aload_n 0, 1) := by decide +kernel
theorem d_Oil_rank_1 : decode b_Oil_rank 1 = .ok (.getfield 9, 3) := by decide +kernel
theorem d_Oil_rank_4 : decode b_Oil_rank 4 = .ok (.iconst 1, 1) := by decide +kernel
theorem d_Oil_rank_5 : decode b_Oil_rank 5 = .ok (.iconst 4, 1) := by decide +kernel
theorem d_Oil_rank_6 : decode b_Oil_rank 6 = .ok (.invokevirtual 15, 3) := by decide +kernel
theorem d_Oil_rank_9 : decode b_Oil_rank 9 = .ok (.aload_n 0, 1) := by decide +kernel
theorem d_Oil_rank_10 : decode b_Oil_rank 10 = .ok (.invokespecial 29, 3) := by decide +kernel
theorem d_Oil_rank_13 : decode b_Oil_rank 13 = .ok (.iconst 1, 1) := by decide +kernel
theorem d_Oil_rank_14 : decode b_Oil_rank 14 = .ok (.iadd, 1) := by decide +kernel
theorem d_Oil_rank_15 : decode b_Oil_rank 15 = .ok (.ireturn, 1) := by decide +kernel
theorem cy_Oil_rank : zY y_Oil_rank b_Oil_rank 1 (some (FieldType.int)) 0 := ⟨kw_452, kw_5, by decide +kernel, by decide +kernel⟩
theorem d_Oil_tone_0 : decode b_Oil_tone 0 = .ok (.aload_n 0, 1) := by decide +kernel
theorem d_Oil_tone_1 : decode b_Oil_tone 1 = .ok (.getfield 9, 3) := by decide +kernel
theorem d_Oil_tone_4 : decode b_Oil_tone 4 = .ok (.iconst 1, 1) := by decide +kernel
theorem d_Oil_tone_5 : decode b_Oil_tone 5 = .ok (.bipush 6, 2) := by decide +kernel
theorem d_Oil_tone_7 : decode b_Oil_tone 7 = .ok (.invokevirtual 15, 3) := by decide +kernel
theorem d_Oil_tone_10 : decode b_Oil_tone 10 = .ok (.bipush 7, 2) := by decide +kernel
theorem d_Oil_tone_12 : decode b_Oil_tone 12 = .ok (.ireturn, 1) := by decide +kernel
theorem cy_Oil_tone : zY y_Oil_tone b_Oil_tone 1 (some (FieldType.int)) 0 := ⟨kw_490, kw_5, by decide +kernel, by decide +kernel⟩
theorem d_Outer_init_0 : decode b_Outer_init 0 = .ok (.aload_n 0, 1) := by decide +kernel
theorem d_Outer_init_1 : decode b_Outer_init 1 = .ok (.aload_n 1, 1) := by decide +kernel
theorem d_Outer_init_2 : decode b_Outer_init 2 = .ok (.iload_n 2, 1) := by decide +kernel
theorem d_Outer_init_3 : decode b_Outer_init 3 = .ok (.iload_n 3, 1) := by decide +kernel
theorem d_Outer_init_4 : decode b_Outer_init 4 = .ok (.invokespecial 3, 3) := by decide +kernel
theorem d_Outer_init_7 : decode b_Outer_init 7 = .ok (.return_, 1) := by decide +kernel
theorem cy_Outer_init : zY y_Outer_init b_Outer_init 4 none 3 := ⟨kw_242, kw_13, by decide +kernel, by decide +kernel⟩
theorem d_Outer_burn_0 : decode b_Outer_burn 0 = .ok (.aload_n 0, 1) := by decide +kernel
theorem d_Outer_burn_1 : decode b_Outer_burn 1 = .ok (.getfield 9, 3) := by decide +kernel
theorem d_Outer_burn_4 : decode b_Outer_burn 4 = .ok (.bipush 9, 2) := by decide +kernel
theorem d_Outer_burn_6 : decode b_Outer_burn 6 = .ok (.iconst 0, 1) := by decide +kernel
theorem d_Outer_burn_7 : decode b_Outer_burn 7 = .ok (.invokevirtual 15, 3) := by decide +kernel
theorem d_Outer_burn_10 : decode b_Outer_burn 10 = .ok (.aload_n 0, 1) := by decide +kernel
theorem d_Outer_burn_11 : decode b_Outer_burn 11 = .ok (.iload_n 1, 1) := by decide +kernel
theorem d_Outer_burn_12 : decode b_Outer_burn 12 = .ok (.invokespecial 21, 3) := by decide +kernel
theorem d_Outer_burn_15 : decode b_Outer_burn 15 = .ok (.aload_n 0, 1) := by decide +kernel
theorem d_Outer_burn_16 : decode b_Outer_burn 16 = .ok (.getfield 9, 3) := by decide +kernel
theorem d_Outer_burn_19 : decode b_Outer_burn 19 = .ok (.iconst 1, 1) := by decide +kernel
theorem d_Outer_burn_20 : decode b_Outer_burn 20 = .ok (.invokevirtual 25, 3) := by decide +kernel
theorem d_Outer_burn_23 : decode b_Outer_burn 23 = .ok (.isub, 1) := by decide +kernel
theorem d_Outer_burn_24 : decode b_Outer_burn 24 = .ok (.iconst 0, 1) := by decide +kernel
theorem d_Outer_burn_25 : decode b_Outer_burn 25 = .ok (.invokestatic 28, 3) := by decide +kernel
theorem d_Outer_burn_28 : decode b_Outer_burn 28 = .ok (.ireturn, 1) := by decide +kernel
theorem cy_Outer_burn : zY y_Outer_burn b_Outer_burn 2 (some (FieldType.int)) 1 := ⟨kw_315, kw_13, by decide +kernel, by decide +kernel⟩
theorem d_Outer_flash_0 : decode b_Outer_flash 0 = .ok (.aload_n 0, 1) := by decide +kernel
theorem d_Outer_flash_1 : decode b_Outer_flash 1 = .ok (.getfield 9, 3) := by decide +kernel
theorem d_Outer_flash_4 : decode b_Outer_flash 4 = .ok (.bipush 9, 2) := by decide +kernel
theorem d_Outer_flash_6 : decode b_Outer_flash 6 = .ok (.iconst 2, 1) := by decide +kernel
theorem d_Outer_flash_7 : decode b_Outer_flash 7 = .ok (.invokevirtual 15, 3) := by decide +kernel
theorem d_Outer_flash_10 : decode b_Outer_flash 10 = .ok (.aload_n 0, 1) := by decide +kernel
theorem d_Outer_flash_11 : decode b_Outer_flash 11 = .ok (.iload_n 1, 1) := by decide +kernel
theorem d_Outer_flash_12 : decode b_Outer_flash 12 = .ok (.invokespecial 34, 3) := by decide +kernel
theorem d_Outer_flash_15 : decode b_Outer_flash 15 = .ok (.istore_n 2, 1) := by decide +kernel
theorem d_Outer_flash_16 : decode b_Outer_flash 16 = .ok (.iload_n 2, 1) := by decide +kernel
theorem d_Outer_flash_17 : decode b_Outer_flash 17 = .ok (.aload_n 0, 1) := by decide +kernel
theorem d_Outer_flash_18 : decode b_Outer_flash 18 = .ok (.iload_n 1, 1) := by decide +kernel
theorem d_Outer_flash_19 : decode b_Outer_flash 19 = .ok (.iconst 1, 1) := by decide +kernel
theorem d_Outer_flash_20 : decode b_Outer_flash 20 = .ok (.iadd, 1) := by decide +kernel
theorem d_Outer_flash_21 : decode b_Outer_flash 21 = .ok (.invokespecial 34, 3) := by decide +kernel
theorem d_Outer_flash_24 : decode b_Outer_flash 24 = .ok (.iadd, 1) := by decide +kernel
theorem d_Outer_flash_25 : decode b_Outer_flash 25 = .ok (.ireturn, 1) := by decide +kernel
theorem cy_Outer_flash : zY y_Outer_flash b_Outer_flash 3 (some (FieldType.int)) 1 := ⟨kw_393, kw_13, by decide +kernel, by decide +kernel⟩
theorem d_Outer_rank_0 : decode b_Outer_rank 0 = .ok (.aload_n 0, 1) := by decide +kernel
theorem d_Outer_rank_1 : decode b_Outer_rank 1 = .ok (.getfield 9, 3) := by decide +kernel
theorem d_Outer_rank_4 : decode b_Outer_rank 4 = .ok (.bipush 9, 2) := by decide +kernel
theorem d_Outer_rank_6 : decode b_Outer_rank 6 = .ok (.iconst 4, 1) := by decide +kernel
theorem d_Outer_rank_7 : decode b_Outer_rank 7 = .ok (.invokevirtual 15, 3) := by decide +kernel
theorem d_Outer_rank_10 : decode b_Outer_rank 10 = .ok (.aload_n 0, 1) := by decide +kernel
theorem d_Outer_rank_11 : decode b_Outer_rank 11 = .ok (.invokespecial 37, 3) := by decide +kernel
theorem d_Outer_rank_14 : decode b_Outer_rank 14 = .ok (.aload_n 0, 1) := by decide +kernel
theorem d_Outer_rank_15 : decode b_Outer_rank 15 = .ok (.getfield 41, 3) := by decide +kernel
theorem d_Outer_rank_18 : decode b_Outer_rank 18 = .ok (.iconst 3, 1) := by decide +kernel
theorem d_Outer_rank_19 : decode b_Outer_rank 19 = .ok (.irem, 1) := by decide +kernel
theorem d_Outer_rank_20 : decode b_Outer_rank 20 = .ok (.iadd, 1) := by decide +kernel
theorem d_Outer_rank_21 : decode b_Outer_rank 21 = .ok (.ireturn, 1) := by decide +kernel
theorem cy_Outer_rank : zY y_Outer_rank b_Outer_rank 1 (some (FieldType.int)) 0 := ⟨kw_459, kw_13, by decide +kernel, by decide +kernel⟩
theorem d_Outer_tone_0 : decode b_Outer_tone 0 = .ok (.aload_n 0, 1) := by decide +kernel
theorem d_Outer_tone_1 : decode b_Outer_tone 1 = .ok (.getfield 9, 3) := by decide +kernel
theorem d_Outer_tone_4 : decode b_Outer_tone 4 = .ok (.bipush 9, 2) := by decide +kernel
theorem d_Outer_tone_6 : decode b_Outer_tone 6 = .ok (.bipush 6, 2) := by decide +kernel
theorem d_Outer_tone_8 : decode b_Outer_tone 8 = .ok (.invokevirtual 15, 3) := by decide +kernel
theorem d_Outer_tone_11 : decode b_Outer_tone 11 = .ok (.aload_n 0, 1) := by decide +kernel
theorem d_Outer_tone_12 : decode b_Outer_tone 12 = .ok (.invokespecial 45, 3) := by decide +kernel
theorem d_Outer_tone_15 : decode b_Outer_tone 15 = .ok (.istore_n 1, 1) := by decide +kernel
theorem d_Outer_tone_16 : decode b_Outer_tone 16 = .ok (.iload_n 1, 1) := by decide +kernel
theorem d_Outer_tone_17 : decode b_Outer_tone 17 = .ok (.aload_n 0, 1) := by decide +kernel
theorem d_Outer_tone_18 : decode b_Outer_tone 18 = .ok (.invokevirtual 48, 3) := by decide +kernel
theorem d_Outer_tone_21 : decode b_Outer_tone 21 = .ok (.iadd, 1) := by decide +kernel
theorem d_Outer_tone_22 : decode b_Outer_tone 22 = .ok (.ireturn, 1) := by decide +kernel
theorem cy_Outer_tone : zY y_Outer_tone b_Outer_tone 2 (some (FieldType.int)) 0 := ⟨kw_505, kw_13, by decide +kernel, by decide +kernel⟩
theorem d_Round_init_0 : decode b_Round_init 0 = .ok (.aload_n 0, 1) := by decide +kernel
theorem d_Round_init_1 : decode b_Round_init 1 = .ok (.aload_n 1, 1) := by decide +kernel
theorem d_Round_init_2 : decode b_Round_init 2 = .ok (.iload_n 2, 1) := by decide +kernel
theorem d_Round_init_3 : decode b_Round_init 3 = .ok (.iload_n 3, 1) := by decide +kernel
theorem d_Round_init_4 : decode b_Round_init 4 = .ok (.invokespecial 3, 3) := by decide +kernel
theorem d_Round_init_7 : decode b_Round_init 7 = .ok (.return_, 1) := by decide +kernel
theorem cy_Round_init : zY y_Round_init b_Round_init 4 none 3 := ⟨kw_151, kw_6, by decide +kernel, by decide +kernel⟩
theorem d_Round_reach_0 : decode b_Round_reach 0 = .ok (.aload_n 0, 1) := by decide +kernel
theorem d_Round_reach_1 : decode b_Round_reach 1 = .ok (.getfield 9, 3) := by decide +kernel
theorem d_Round_reach_4 : decode b_Round_reach 4 = .ok (.iconst 2, 1) := by decide +kernel
theorem d_Round_reach_5 : decode b_Round_reach 5 = .ok (.iconst 1, 1) := by decide +kernel
theorem d_Round_reach_6 : decode b_Round_reach 6 = .ok (.invokevirtual 15, 3) := by decide +kernel
theorem d_Round_reach_9 : decode b_Round_reach 9 = .ok (.aload_n 0, 1) := by decide +kernel
theorem d_Round_reach_10 : decode b_Round_reach 10 = .ok (.iload_n 1, 1) := by decide +kernel
theorem d_Round_reach_11 : decode b_Round_reach 11 = .ok (.invokespecial 21, 3) := by decide +kernel
theorem d_Round_reach_14 : decode b_Round_reach 14 = .ok (.aload_n 0, 1) := by decide +kernel
theorem d_Round_reach_15 : decode b_Round_reach 15 = .ok (.getfield 9, 3) := by decide +kernel
theorem d_Round_reach_18 : decode b_Round_reach 18 = .ok (.iconst 2, 1) := by decide +kernel
theorem d_Round_reach_19 : decode b_Round_reach 19 = .ok (.invokevirtual 25, 3) := by decide +kernel
theorem d_Round_reach_22 : decode b_Round_reach 22 = .ok (.iadd, 1) := by decide +kernel
theorem d_Round_reach_23 : decode b_Round_reach 23 = .ok (.ireturn, 1) := by decide +kernel
theorem cy_Round_reach : zY y_Round_reach b_Round_reach 2 (some (FieldType.int)) 1 := ⟨kw_359, kw_6, by decide +kernel, by decide +kernel⟩
theorem d_Round_tend_0 : decode b_Round_tend 0 = .ok (.aload_n 0, 1) := by decide +kernel
theorem d_Round_tend_1 : decode b_Round_tend 1 = .ok (.getfield 9, 3) := by decide +kernel
theorem d_Round_tend_4 : decode b_Round_tend 4 = .ok (.iconst 2, 1) := by decide +kernel
theorem d_Round_tend_5 : decode b_Round_tend 5 = .ok (.iconst 3, 1) := by decide +kernel
theorem d_Round_tend_6 : decode b_Round_tend 6 = .ok (.invokevirtual 15, 3) := by decide +kernel
theorem d_Round_tend_9 : decode b_Round_tend 9 = .ok (.aload_n 0, 1) := by decide +kernel
theorem d_Round_tend_10 : decode b_Round_tend 10 = .ok (.iload_n 1, 1) := by decide +kernel
theorem d_Round_tend_11 : decode b_Round_tend 11 = .ok (.invokespecial 28, 3) := by decide +kernel
theorem d_Round_tend_14 : decode b_Round_tend 14 = .ok (.pop, 1) := by decide +kernel
theorem d_Round_tend_15 : decode b_Round_tend 15 = .ok (.aload_n 0, 1) := by decide +kernel
theorem d_Round_tend_16 : decode b_Round_tend 16 = .ok (.iload_n 1, 1) := by decide +kernel
theorem d_Round_tend_17 : decode b_Round_tend 17 = .ok (.iconst 2, 1) := by decide +kernel
theorem d_Round_tend_18 : decode b_Round_tend 18 = .ok (.idiv, 1) := by decide +kernel
theorem d_Round_tend_19 : decode b_Round_tend 19 = .ok (.invokespecial 28, 3) := by decide +kernel
theorem d_Round_tend_22 : decode b_Round_tend 22 = .ok (.ireturn, 1) := by decide +kernel
theorem cy_Round_tend : zY y_Round_tend b_Round_tend 2 (some (FieldType.int)) 1 := ⟨kw_424, kw_6, by decide +kernel, by decide +kernel⟩
theorem d_Swing_init_0 : decode b_Swing_init 0 = .ok (.aload_n 0, 1) := by decide +kernel
theorem d_Swing_init_1 : decode b_Swing_init 1 = .ok (.aload_n 1, 1) := by decide +kernel
theorem d_Swing_init_2 : decode b_Swing_init 2 = .ok (.iload_n 2, 1) := by decide +kernel
theorem d_Swing_init_3 : decode b_Swing_init 3 = .ok (.iload_n 3, 1) := by decide +kernel
theorem d_Swing_init_4 : decode b_Swing_init 4 = .ok (.invokespecial 3, 3) := by decide +kernel
theorem d_Swing_init_7 : decode b_Swing_init 7 = .ok (.return_, 1) := by decide +kernel
theorem cy_Swing_init : zY y_Swing_init b_Swing_init 4 none 3 := ⟨kw_190, kw_9, by decide +kernel, by decide +kernel⟩
theorem d_Swing_burn_0 : decode b_Swing_burn 0 = .ok (.aload_n 0, 1) := by decide +kernel
theorem d_Swing_burn_1 : decode b_Swing_burn 1 = .ok (.getfield 9, 3) := by decide +kernel
theorem d_Swing_burn_4 : decode b_Swing_burn 4 = .ok (.iconst 5, 1) := by decide +kernel
theorem d_Swing_burn_5 : decode b_Swing_burn 5 = .ok (.iconst 0, 1) := by decide +kernel
theorem d_Swing_burn_6 : decode b_Swing_burn 6 = .ok (.invokevirtual 15, 3) := by decide +kernel
theorem d_Swing_burn_9 : decode b_Swing_burn 9 = .ok (.aload_n 0, 1) := by decide +kernel
theorem d_Swing_burn_10 : decode b_Swing_burn 10 = .ok (.iload_n 1, 1) := by decide +kernel
theorem d_Swing_burn_11 : decode b_Swing_burn 11 = .ok (.invokespecial 21, 3) := by decide +kernel
theorem d_Swing_burn_14 : decode b_Swing_burn 14 = .ok (.iload_n 1, 1) := by decide +kernel
theorem d_Swing_burn_15 : decode b_Swing_burn 15 = .ok (.iconst 2, 1) := by decide +kernel
theorem d_Swing_burn_16 : decode b_Swing_burn 16 = .ok (.idiv, 1) := by decide +kernel
theorem d_Swing_burn_17 : decode b_Swing_burn 17 = .ok (.iadd, 1) := by decide +kernel
theorem d_Swing_burn_18 : decode b_Swing_burn 18 = .ok (.ireturn, 1) := by decide +kernel
theorem cy_Swing_burn : zY y_Swing_burn b_Swing_burn 2 (some (FieldType.int)) 1 := ⟨kw_327, kw_9, by decide +kernel, by decide +kernel⟩
theorem d_Swing_flash_0 : decode b_Swing_flash 0 = .ok (.aload_n 0, 1) := by decide +kernel
theorem d_Swing_flash_1 : decode b_Swing_flash 1 = .ok (.getfield 9, 3) := by decide +kernel
theorem d_Swing_flash_4 : decode b_Swing_flash 4 = .ok (.iconst 5, 1) := by decide +kernel
theorem d_Swing_flash_5 : decode b_Swing_flash 5 = .ok (.iconst 2, 1) := by decide +kernel
theorem d_Swing_flash_6 : decode b_Swing_flash 6 = .ok (.invokevirtual 15, 3) := by decide +kernel
theorem d_Swing_flash_9 : decode b_Swing_flash 9 = .ok (.aload_n 0, 1) := by decide +kernel
theorem d_Swing_flash_10 : decode b_Swing_flash 10 = .ok (.iload_n 1, 1) := by decide +kernel
theorem d_Swing_flash_11 : decode b_Swing_flash 11 = .ok (.iconst 3, 1) := by decide +kernel
theorem d_Swing_flash_12 : decode b_Swing_flash 12 = .ok (.idiv, 1) := by decide +kernel
theorem d_Swing_flash_13 : decode b_Swing_flash 13 = .ok (.invokespecial 25, 3) := by decide +kernel
theorem d_Swing_flash_16 : decode b_Swing_flash 16 = .ok (.ireturn, 1) := by decide +kernel
theorem cy_Swing_flash : zY y_Swing_flash b_Swing_flash 2 (some (FieldType.int)) 1 := ⟨kw_400, kw_9, by decide +kernel, by decide +kernel⟩
theorem d_Swing_horn_0 : decode b_Swing_horn 0 = .ok (.aload_n 0, 1) := by decide +kernel
theorem d_Swing_horn_1 : decode b_Swing_horn 1 = .ok (.getfield 9, 3) := by decide +kernel
theorem d_Swing_horn_4 : decode b_Swing_horn 4 = .ok (.iconst 5, 1) := by decide +kernel
theorem d_Swing_horn_5 : decode b_Swing_horn 5 = .ok (.iconst 5, 1) := by decide +kernel
theorem d_Swing_horn_6 : decode b_Swing_horn 6 = .ok (.invokevirtual 15, 3) := by decide +kernel
theorem d_Swing_horn_9 : decode b_Swing_horn 9 = .ok (.aload_n 0, 1) := by decide +kernel
theorem d_Swing_horn_10 : decode b_Swing_horn 10 = .ok (.invokevirtual 28, 3) := by decide +kernel
theorem d_Swing_horn_13 : decode b_Swing_horn 13 = .ok (.iload_n 1, 1) := by decide +kernel
theorem d_Swing_horn_14 : decode b_Swing_horn 14 = .ok (.iadd, 1) := by decide +kernel
theorem d_Swing_horn_15 : decode b_Swing_horn 15 = .ok (.ireturn, 1) := by decide +kernel
theorem cy_Swing_horn : zY y_Swing_horn b_Swing_horn 2 (some (FieldType.int)) 1 := ⟨kw_479, kw_9, by decide +kernel, by decide +kernel⟩
theorem d_Twin_init_0 : decode b_Twin_init 0 = .ok (.aload_n 0, 1) := by decide +kernel
theorem d_Twin_init_1 : decode b_Twin_init 1 = .ok (.aload_n 1, 1) := by decide +kernel
theorem d_Twin_init_2 : decode b_Twin_init 2 = .ok (.iload_n 2, 1) := by decide +kernel
theorem d_Twin_init_3 : decode b_Twin_init 3 = .ok (.iload_n 3, 1) := by decide +kernel
theorem d_Twin_init_4 : decode b_Twin_init 4 = .ok (.invokespecial 3, 3) := by decide +kernel
theorem d_Twin_init_7 : decode b_Twin_init 7 = .ok (.return_, 1) := by decide +kernel
theorem cy_Twin_init : zY y_Twin_init b_Twin_init 4 none 3 := ⟨kw_164, kw_7, by decide +kernel, by decide +kernel⟩
theorem d_Twin_horned_0 : decode b_Twin_horned 0 = .ok (.iconst 1, 1) := by decide +kernel
theorem d_Twin_horned_1 : decode b_Twin_horned 1 = .ok (.ireturn, 1) := by decide +kernel
theorem cy_Twin_horned : zY y_Twin_horned b_Twin_horned 1 (some (FieldType.boolean)) 0 := ⟨kw_276, kw_7, by decide +kernel, by decide +kernel⟩
theorem d_Twin_burn_0 : decode b_Twin_burn 0 = .ok (.aload_n 0, 1) := by decide +kernel
theorem d_Twin_burn_1 : decode b_Twin_burn 1 = .ok (.getfield 9, 3) := by decide +kernel
theorem d_Twin_burn_4 : decode b_Twin_burn 4 = .ok (.iconst 3, 1) := by decide +kernel
theorem d_Twin_burn_5 : decode b_Twin_burn 5 = .ok (.iconst 0, 1) := by decide +kernel
theorem d_Twin_burn_6 : decode b_Twin_burn 6 = .ok (.invokevirtual 15, 3) := by decide +kernel
theorem d_Twin_burn_9 : decode b_Twin_burn 9 = .ok (.aload_n 0, 1) := by decide +kernel
theorem d_Twin_burn_10 : decode b_Twin_burn 10 = .ok (.iload_n 1, 1) := by decide +kernel
theorem d_Twin_burn_11 : decode b_Twin_burn 11 = .ok (.invokespecial 21, 3) := by decide +kernel
theorem d_Twin_burn_14 : decode b_Twin_burn 14 = .ok (.istore_n 2, 1) := by decide +kernel
theorem d_Twin_burn_15 : decode b_Twin_burn 15 = .ok (.iload_n 2, 1) := by decide +kernel
theorem d_Twin_burn_16 : decode b_Twin_burn 16 = .ok (.aload_n 0, 1) := by decide +kernel
theorem d_Twin_burn_17 : decode b_Twin_burn 17 = .ok (.iload_n 1, 1) := by decide +kernel
theorem d_Twin_burn_18 : decode b_Twin_burn 18 = .ok (.invokespecial 21, 3) := by decide +kernel
theorem d_Twin_burn_21 : decode b_Twin_burn 21 = .ok (.iadd, 1) := by decide +kernel
theorem d_Twin_burn_22 : decode b_Twin_burn 22 = .ok (.ireturn, 1) := by decide +kernel
theorem cy_Twin_burn : zY y_Twin_burn b_Twin_burn 3 (some (FieldType.int)) 1 := ⟨kw_301, kw_7, by decide +kernel, by decide +kernel⟩
theorem d_Twin_reach_0 : decode b_Twin_reach 0 = .ok (.aload_n 0, 1) := by decide +kernel
theorem d_Twin_reach_1 : decode b_Twin_reach 1 = .ok (.getfield 9, 3) := by decide +kernel
theorem d_Twin_reach_4 : decode b_Twin_reach 4 = .ok (.iconst 3, 1) := by decide +kernel
theorem d_Twin_reach_5 : decode b_Twin_reach 5 = .ok (.iconst 1, 1) := by decide +kernel
theorem d_Twin_reach_6 : decode b_Twin_reach 6 = .ok (.invokevirtual 15, 3) := by decide +kernel
theorem d_Twin_reach_9 : decode b_Twin_reach 9 = .ok (.aload_n 0, 1) := by decide +kernel
theorem d_Twin_reach_10 : decode b_Twin_reach 10 = .ok (.iload_n 1, 1) := by decide +kernel
theorem d_Twin_reach_11 : decode b_Twin_reach 11 = .ok (.invokespecial 25, 3) := by decide +kernel
theorem d_Twin_reach_14 : decode b_Twin_reach 14 = .ok (.istore_n 2, 1) := by decide +kernel
theorem d_Twin_reach_15 : decode b_Twin_reach 15 = .ok (.iload_n 2, 1) := by decide +kernel
theorem d_Twin_reach_16 : decode b_Twin_reach 16 = .ok (.aload_n 0, 1) := by decide +kernel
theorem d_Twin_reach_17 : decode b_Twin_reach 17 = .ok (.iload_n 1, 1) := by decide +kernel
theorem d_Twin_reach_18 : decode b_Twin_reach 18 = .ok (.iconst 1, 1) := by decide +kernel
theorem d_Twin_reach_19 : decode b_Twin_reach 19 = .ok (.iadd, 1) := by decide +kernel
theorem d_Twin_reach_20 : decode b_Twin_reach 20 = .ok (.invokespecial 25, 3) := by decide +kernel
theorem d_Twin_reach_23 : decode b_Twin_reach 23 = .ok (.iconst 2, 1) := by decide +kernel
theorem d_Twin_reach_24 : decode b_Twin_reach 24 = .ok (.idiv, 1) := by decide +kernel
theorem d_Twin_reach_25 : decode b_Twin_reach 25 = .ok (.iadd, 1) := by decide +kernel
theorem d_Twin_reach_26 : decode b_Twin_reach 26 = .ok (.ireturn, 1) := by decide +kernel
theorem cy_Twin_reach : zY y_Twin_reach b_Twin_reach 3 (some (FieldType.int)) 1 := ⟨kw_356, kw_7, by decide +kernel, by decide +kernel⟩
theorem d_Twin_flash_0 : decode b_Twin_flash 0 = .ok (.aload_n 0, 1) := by decide +kernel
theorem d_Twin_flash_1 : decode b_Twin_flash 1 = .ok (.getfield 9, 3) := by decide +kernel
theorem d_Twin_flash_4 : decode b_Twin_flash 4 = .ok (.iconst 3, 1) := by decide +kernel
theorem d_Twin_flash_5 : decode b_Twin_flash 5 = .ok (.iconst 2, 1) := by decide +kernel
theorem d_Twin_flash_6 : decode b_Twin_flash 6 = .ok (.invokevirtual 15, 3) := by decide +kernel
theorem d_Twin_flash_9 : decode b_Twin_flash 9 = .ok (.iload_n 1, 1) := by decide +kernel
theorem d_Twin_flash_10 : decode b_Twin_flash 10 = .ok (.iconst 3, 1) := by decide +kernel
theorem d_Twin_flash_11 : decode b_Twin_flash 11 = .ok (.iand, 1) := by decide +kernel
theorem d_Twin_flash_12 : decode b_Twin_flash 12 = .ok (.ifCond .ne 7, 3) := by decide +kernel
theorem d_Twin_flash_15 : decode b_Twin_flash 15 = .ok (.iconst 0, 1) := by decide +kernel
theorem d_Twin_flash_16 : decode b_Twin_flash 16 = .ok (.goto 8, 3) := by decide +kernel
theorem d_Twin_flash_19 : decode b_Twin_flash 19 = .ok (.aload_n 0, 1) := by decide +kernel
theorem d_Twin_flash_20 : decode b_Twin_flash 20 = .ok (.iload_n 1, 1) := by decide +kernel
theorem d_Twin_flash_21 : decode b_Twin_flash 21 = .ok (.invokespecial 28, 3) := by decide +kernel
theorem d_Twin_flash_24 : decode b_Twin_flash 24 = .ok (.ireturn, 1) := by decide +kernel
theorem cy_Twin_flash : zY y_Twin_flash b_Twin_flash 2 (some (FieldType.int)) 1 := ⟨kw_385, kw_7, by decide +kernel, by decide +kernel⟩
theorem d_X_init_0 : decode b_X_init 0 = .ok (.aload_n 0, 1) := by decide +kernel
theorem d_X_init_1 : decode b_X_init 1 = .ok (.invokespecial 3, 3) := by decide +kernel
theorem d_X_init_4 : decode b_X_init 4 = .ok (.aload_n 0, 1) := by decide +kernel
theorem d_X_init_5 : decode b_X_init 5 = .ok (.new 9, 3) := by decide +kernel
theorem d_X_init_8 : decode b_X_init 8 = .ok (.dup, 1) := by decide +kernel
theorem d_X_init_9 : decode b_X_init 9 = .ok (.invokespecial 11, 3) := by decide +kernel
theorem d_X_init_12 : decode b_X_init 12 = .ok (.putfield 12, 3) := by decide +kernel
theorem d_X_init_15 : decode b_X_init 15 = .ok (.aload_n 0, 1) := by decide +kernel
theorem d_X_init_16 : decode b_X_init 16 = .ok (.bipush 60, 2) := by decide +kernel
theorem d_X_init_18 : decode b_X_init 18 = .ok (.anewarray 16, 3) := by decide +kernel
theorem d_X_init_21 : decode b_X_init 21 = .ok (.putfield 18, 3) := by decide +kernel
theorem d_X_init_24 : decode b_X_init 24 = .ok (.return_, 1) := by decide +kernel
theorem cy_X_init : zY y_X_init b_X_init 1 none 0 := ⟨kw_19, kw_1, by decide +kernel, by decide +kernel⟩
theorem d_X_dial_0 : decode b_X_dial 0 = .ok (.iload_n 1, 1) := by decide +kernel
theorem d_X_dial_1 : decode b_X_dial 1 = .ok (.iconst 0, 1) := by decide +kernel
theorem d_X_dial_2 : decode b_X_dial 2 = .ok (.bipush 7, 2) := by decide +kernel
theorem d_X_dial_4 : decode b_X_dial 4 = .ok (.invokestatic 22, 3) := by decide +kernel
theorem d_X_dial_7 : decode b_X_dial 7 = .ok (.ifCond .eq 14, 3) := by decide +kernel
theorem d_X_dial_10 : decode b_X_dial 10 = .ok (.iload_n 2, 1) := by decide +kernel
theorem d_X_dial_11 : decode b_X_dial 11 = .ok (.iconst 0, 1) := by decide +kernel
theorem d_X_dial_12 : decode b_X_dial 12 = .ok (.sipush 1000, 3) := by decide +kernel
theorem d_X_dial_15 : decode b_X_dial 15 = .ok (.invokestatic 22, 3) := by decide +kernel
theorem d_X_dial_18 : decode b_X_dial 18 = .ok (.ifCond .ne 5, 3) := by decide +kernel
theorem d_X_dial_21 : decode b_X_dial 21 = .ok (.iconst (-1), 1) := by decide +kernel
theorem d_X_dial_22 : decode b_X_dial 22 = .ok (.ireturn, 1) := by decide +kernel
theorem d_X_dial_23 : decode b_X_dial 23 = .ok (.aload_n 0, 1) := by decide +kernel
theorem d_X_dial_24 : decode b_X_dial 24 = .ok (.getfield 12, 3) := by decide +kernel
theorem d_X_dial_27 : decode b_X_dial 27 = .ok (.iload_n 1, 1) := by decide +kernel
theorem d_X_dial_28 : decode b_X_dial 28 = .ok (.invokevirtual 26, 3) := by decide +kernel
theorem d_X_dial_31 : decode b_X_dial 31 = .ok (.istore_n 3, 1) := by decide +kernel
theorem d_X_dial_32 : decode b_X_dial 32 = .ok (.aload_n 0, 1) := by decide +kernel
theorem d_X_dial_33 : decode b_X_dial 33 = .ok (.getfield 12, 3) := by decide +kernel
theorem d_X_dial_36 : decode b_X_dial 36 = .ok (.iload_n 1, 1) := by decide +kernel
theorem d_X_dial_37 : decode b_X_dial 37 = .ok (.iload_n 2, 1) := by decide +kernel
theorem d_X_dial_38 : decode b_X_dial 38 = .ok (.invokevirtual 30, 3) := by decide +kernel
theorem d_X_dial_41 : decode b_X_dial 41 = .ok (.iload_n 3, 1) := by decide +kernel
theorem d_X_dial_42 : decode b_X_dial 42 = .ok (.ireturn, 1) := by decide +kernel
theorem cy_X_dial : zY y_X_dial b_X_dial 4 (some (FieldType.int)) 2 := ⟨kw_68, kw_1, by decide +kernel, by decide +kernel⟩
theorem d_X_lamp_0 : decode b_X_lamp 0 = .ok (.iload_n 1, 1) := by decide +kernel
theorem d_X_lamp_1 : decode b_X_lamp 1 = .ok (.iconst 1, 1) := by decide +kernel
theorem d_X_lamp_2 : decode b_X_lamp 2 = .ok (.bipush 9, 2) := by decide +kernel
theorem d_X_lamp_4 : decode b_X_lamp 4 = .ok (.invokestatic 22, 3) := by decide +kernel
theorem d_X_lamp_7 : decode b_X_lamp 7 = .ok (.ifCond .eq 14, 3) := by decide +kernel
theorem d_X_lamp_10 : decode b_X_lamp 10 = .ok (.iload_n 2, 1) := by decide +kernel
theorem d_X_lamp_11 : decode b_X_lamp 11 = .ok (.iconst 0, 1) := by decide +kernel
theorem d_X_lamp_12 : decode b_X_lamp 12 = .ok (.sipush 500, 3) := by decide +kernel
theorem d_X_lamp_15 : decode b_X_lamp 15 = .ok (.invokestatic 22, 3) := by decide +kernel
theorem d_X_lamp_18 : decode b_X_lamp 18 = .ok (.ifCond .ne 5, 3) := by decide +kernel
theorem d_X_lamp_21 : decode b_X_lamp 21 = .ok (.iconst (-1), 1) := by decide +kernel
theorem d_X_lamp_22 : decode b_X_lamp 22 = .ok (.ireturn, 1) := by decide +kernel
theorem d_X_lamp_23 : decode b_X_lamp 23 = .ok (.aload_n 0, 1) := by decide +kernel
theorem d_X_lamp_24 : decode b_X_lamp 24 = .ok (.getfield 34, 3) := by decide +kernel
theorem d_X_lamp_27 : decode b_X_lamp 27 = .ok (.aload_n 0, 1) := by decide +kernel
theorem d_X_lamp_28 : decode b_X_lamp 28 = .ok (.getfield 18, 3) := by decide +kernel
theorem d_X_lamp_31 : decode b_X_lamp 31 = .ok (.arraylength, 1) := by decide +kernel
theorem d_X_lamp_32 : decode b_X_lamp 32 = .ok (.if_icmp .lt 6, 3) := by decide +kernel
theorem d_X_lamp_35 : decode b_X_lamp 35 = .ok (.bipush (-2), 2) := by decide +kernel
theorem d_X_lamp_37 : decode b_X_lamp 37 = .ok (.ireturn, 1) := by decide +kernel
theorem d_X_lamp_38 : decode b_X_lamp 38 = .ok (.aload_n 0, 1) := by decide +kernel
theorem d_X_lamp_39 : decode b_X_lamp 39 = .ok (.getfield 34, 3) := by decide +kernel
theorem d_X_lamp_42 : decode b_X_lamp 42 = .ok (.istore_n 3, 1) := by decide +kernel
theorem d_X_lamp_43 : decode b_X_lamp 43 = .ok (.aload_n 0, 1) := by decide +kernel
theorem d_X_lamp_44 : decode b_X_lamp 44 = .ok (.getfield 18, 3) := by decide +kernel
theorem d_X_lamp_47 : decode b_X_lamp 47 = .ok (.iload_n 3, 1) := by decide +kernel
theorem d_X_lamp_48 : decode b_X_lamp 48 = .ok (.aload_n 0, 1) := by decide +kernel
theorem d_X_lamp_49 : decode b_X_lamp 49 = .ok (.iload_n 1, 1) := by decide +kernel
theorem d_X_lamp_50 : decode b_X_lamp 50 = .ok (.iload_n 2, 1) := by decide +kernel
theorem d_X_lamp_51 : decode b_X_lamp 51 = .ok (.invokevirtual 38, 3) := by decide +kernel
theorem d_X_lamp_54 : decode b_X_lamp 54 = .ok (.aastore, 1) := by decide +kernel
theorem d_X_lamp_55 : decode b_X_lamp 55 = .ok (.aload_n 0, 1) := by decide +kernel
theorem d_X_lamp_56 : decode b_X_lamp 56 = .ok (.dup, 1) := by decide +kernel
theorem d_X_lamp_57 : decode b_X_lamp 57 = .ok (.getfield 34, 3) := by decide +kernel
theorem d_X_lamp_60 : decode b_X_lamp 60 = .ok (.iconst 1, 1) := by decide +kernel
theorem d_X_lamp_61 : decode b_X_lamp 61 = .ok (.iadd, 1) := by decide +kernel
theorem d_X_lamp_62 : decode b_X_lamp 62 = .ok (.putfield 34, 3) := by decide +kernel
theorem d_X_lamp_65 : decode b_X_lamp 65 = .ok (.iload_n 3, 1) := by decide +kernel
theorem d_X_lamp_66 : decode b_X_lamp 66 = .ok (.ireturn, 1) := by decide +kernel
theorem cy_X_lamp : zY y_X_lamp b_X_lamp 4 (some (FieldType.int)) 2 := ⟨kw_83, kw_1, by decide +kernel, by decide +kernel⟩
theorem d_X_ask_0 : decode b_X_ask 0 = .ok (.aload_n 0, 1) := by decide +kernel
theorem d_X_ask_1 : decode b_X_ask 1 = .ok (.iload_n 1, 1) := by decide +kernel
theorem d_X_ask_2 : decode b_X_ask 2 = .ok (.invokevirtual 42, 3) := by decide +kernel
theorem d_X_ask_5 : decode b_X_ask 5 = .ok (.astore 4, 2) := by decide +kernel
theorem d_X_ask_7 : decode b_X_ask 7 = .ok (.aload 4, 2) := by decide +kernel
theorem d_X_ask_9 : decode b_X_ask 9 = .ok (.ifnull 13, 3) := by decide +kernel
theorem d_X_ask_12 : decode b_X_ask 12 = .ok (.iload_n 2, 1) := by decide +kernel
theorem d_X_ask_13 : decode b_X_ask 13 = .ok (.iconst 0, 1) := by decide +kernel
theorem d_X_ask_14 : decode b_X_ask 14 = .ok (.bipush 6, 2) := by decide +kernel
theorem d_X_ask_16 : decode b_X_ask 16 = .ok (.invokestatic 22, 3) := by decide +kernel
theorem d_X_ask_19 : decode b_X_ask 19 = .ok (.ifCond .ne 7, 3) := by decide +kernel
theorem d_X_ask_22 : decode b_X_ask 22 = .ok (.ldc2_w 46, 3) := by decide +kernel
theorem d_X_ask_25 : decode b_X_ask 25 = .ok (.lreturn, 1) := by decide +kernel
theorem d_X_ask_26 : decode b_X_ask 26 = .ok (.aload_n 0, 1) := by decide +kernel
theorem d_X_ask_27 : decode b_X_ask 27 = .ok (.invokevirtual 48, 3) := by decide +kernel
theorem d_X_ask_30 : decode b_X_ask 30 = .ok (.iload_n 2, 1) := by decide +kernel
theorem d_X_ask_31 : decode b_X_ask 31 = .ok (.iconst 5, 1) := by decide +kernel
theorem d_X_ask_32 : decode b_X_ask 32 = .ok (.if_icmp .lt 15, 3) := by decide +kernel
theorem d_X_ask_35 : decode b_X_ask 35 = .ok (.aload 4, 2) := by decide +kernel
theorem d_X_ask_37 : decode b_X_ask 37 = .ok (.invokevirtual 51, 3) := by decide +kernel
theorem d_X_ask_40 : decode b_X_ask 40 = .ok (.ifCond .ne 7, 3) := by decide +kernel
theorem d_X_ask_43 : decode b_X_ask 43 = .ok (.ldc2_w 55, 3) := by decide +kernel
theorem d_X_ask_46 : decode b_X_ask 46 = .ok (.lreturn, 1) := by decide +kernel
theorem d_X_ask_47 : decode b_X_ask 47 = .ok (.iload_n 2, 1) := by decide +kernel
theorem d_X_ask_48 : decode b_X_ask 48 = .ok (.tableswitch 87 0 5 #[40, 48, 56, 64, 72, 79], 40) := by decide +kernel
theorem d_X_ask_88 : decode b_X_ask 88 = .ok (.aload 4, 2) := by decide +kernel
theorem d_X_ask_90 : decode b_X_ask 90 = .ok (.iload_n 3, 1) := by decide +kernel
theorem d_X_ask_91 : decode b_X_ask 91 = .ok (.invokevirtual 57, 3) := by decide +kernel
theorem d_X_ask_94 : decode b_X_ask 94 = .ok (.i2l, 1) := by decide +kernel
theorem d_X_ask_95 : decode b_X_ask 95 = .ok (.lreturn, 1) := by decide +kernel
theorem d_X_ask_96 : decode b_X_ask 96 = .ok (.aload 4, 2) := by decide +kernel
theorem d_X_ask_98 : decode b_X_ask 98 = .ok (.iload_n 3, 1) := by decide +kernel
theorem d_X_ask_99 : decode b_X_ask 99 = .ok (.invokevirtual 60, 3) := by decide +kernel
theorem d_X_ask_102 : decode b_X_ask 102 = .ok (.i2l, 1) := by decide +kernel
theorem d_X_ask_103 : decode b_X_ask 103 = .ok (.lreturn, 1) := by decide +kernel
theorem d_X_ask_104 : decode b_X_ask 104 = .ok (.aload 4, 2) := by decide +kernel
theorem d_X_ask_106 : decode b_X_ask 106 = .ok (.iload_n 3, 1) := by decide +kernel
theorem d_X_ask_107 : decode b_X_ask 107 = .ok (.invokevirtual 63, 3) := by decide +kernel
theorem d_X_ask_110 : decode b_X_ask 110 = .ok (.i2l, 1) := by decide +kernel
theorem d_X_ask_111 : decode b_X_ask 111 = .ok (.lreturn, 1) := by decide +kernel
theorem d_X_ask_112 : decode b_X_ask 112 = .ok (.aload 4, 2) := by decide +kernel
theorem d_X_ask_114 : decode b_X_ask 114 = .ok (.iload_n 3, 1) := by decide +kernel
theorem d_X_ask_115 : decode b_X_ask 115 = .ok (.invokevirtual 66, 3) := by decide +kernel
theorem d_X_ask_118 : decode b_X_ask 118 = .ok (.i2l, 1) := by decide +kernel
theorem d_X_ask_119 : decode b_X_ask 119 = .ok (.lreturn, 1) := by decide +kernel
theorem d_X_ask_120 : decode b_X_ask 120 = .ok (.aload 4, 2) := by decide +kernel
theorem d_X_ask_122 : decode b_X_ask 122 = .ok (.invokevirtual 69, 3) := by decide +kernel
theorem d_X_ask_125 : decode b_X_ask 125 = .ok (.i2l, 1) := by decide +kernel
theorem d_X_ask_126 : decode b_X_ask 126 = .ok (.lreturn, 1) := by decide +kernel
theorem d_X_ask_127 : decode b_X_ask 127 = .ok (.aload 4, 2) := by decide +kernel
theorem d_X_ask_129 : decode b_X_ask 129 = .ok (.iload_n 3, 1) := by decide +kernel
theorem d_X_ask_130 : decode b_X_ask 130 = .ok (.invokevirtual 73, 3) := by decide +kernel
theorem d_X_ask_133 : decode b_X_ask 133 = .ok (.i2l, 1) := by decide +kernel
theorem d_X_ask_134 : decode b_X_ask 134 = .ok (.lreturn, 1) := by decide +kernel
theorem d_X_ask_135 : decode b_X_ask 135 = .ok (.aload 4, 2) := by decide +kernel
theorem d_X_ask_137 : decode b_X_ask 137 = .ok (.invokevirtual 76, 3) := by decide +kernel
theorem d_X_ask_140 : decode b_X_ask 140 = .ok (.i2l, 1) := by decide +kernel
theorem d_X_ask_141 : decode b_X_ask 141 = .ok (.lreturn, 1) := by decide +kernel
theorem cy_X_ask : zY y_X_ask b_X_ask 5 (some (FieldType.long)) 3 := ⟨kw_254, kw_1, by decide +kernel, by decide +kernel⟩
theorem d_X_trace_0 : decode b_X_trace 0 = .ok (.iload_n 1, 1) := by decide +kernel
theorem d_X_trace_1 : decode b_X_trace 1 = .ok (.iconst 0, 1) := by decide +kernel
theorem d_X_trace_2 : decode b_X_trace 2 = .ok (.aload_n 0, 1) := by decide +kernel
theorem d_X_trace_3 : decode b_X_trace 3 = .ok (.getfield 12, 3) := by decide +kernel
theorem d_X_trace_6 : decode b_X_trace 6 = .ok (.getfield 79, 3) := by decide +kernel
theorem d_X_trace_9 : decode b_X_trace 9 = .ok (.iconst 1, 1) := by decide +kernel
theorem d_X_trace_10 : decode b_X_trace 10 = .ok (.isub, 1) := by decide +kernel
theorem d_X_trace_11 : decode b_X_trace 11 = .ok (.invokestatic 22, 3) := by decide +kernel
theorem d_X_trace_14 : decode b_X_trace 14 = .ok (.ifCond .eq 14, 3) := by decide +kernel
theorem d_X_trace_17 : decode b_X_trace 17 = .ok (.aload_n 0, 1) := by decide +kernel
theorem d_X_trace_18 : decode b_X_trace 18 = .ok (.getfield 12, 3) := by decide +kernel
theorem d_X_trace_21 : decode b_X_trace 21 = .ok (.iload_n 1, 1) := by decide +kernel
theorem d_X_trace_22 : decode b_X_trace 22 = .ok (.invokevirtual 82, 3) := by decide +kernel
theorem d_X_trace_25 : decode b_X_trace 25 = .ok (.goto 4, 3) := by decide +kernel
theorem d_X_trace_28 : decode b_X_trace 28 = .ok (.iconst (-1), 1) := by decide +kernel
theorem d_X_trace_29 : decode b_X_trace 29 = .ok (.ireturn, 1) := by decide +kernel
theorem cy_X_trace : zY y_X_trace b_X_trace 2 (some (FieldType.int)) 1 := ⟨kw_519, kw_1, by decide +kernel, by decide +kernel⟩
theorem d_X_haul_0 : decode b_X_haul 0 = .ok (.iload_n 1, 1) := by decide +kernel
theorem d_X_haul_1 : decode b_X_haul 1 = .ok (.iconst 1, 1) := by decide +kernel
theorem d_X_haul_2 : decode b_X_haul 2 = .ok (.ldc 85, 2) := by decide +kernel
theorem d_X_haul_4 : decode b_X_haul 4 = .ok (.invokestatic 22, 3) := by decide +kernel
theorem d_X_haul_7 : decode b_X_haul 7 = .ok (.ifCond .ne 7, 3) := by decide +kernel
theorem d_X_haul_10 : decode b_X_haul 10 = .ok (.ldc2_w 46, 3) := by decide +kernel
theorem d_X_haul_13 : decode b_X_haul 13 = .ok (.lreturn, 1) := by decide +kernel
theorem d_X_haul_14 : decode b_X_haul 14 = .ok (.aload_n 0, 1) := by decide +kernel
theorem d_X_haul_15 : decode b_X_haul 15 = .ok (.dup, 1) := by decide +kernel
theorem d_X_haul_16 : decode b_X_haul 16 = .ok (.getfield 86, 3) := by decide +kernel
theorem d_X_haul_19 : decode b_X_haul 19 = .ok (.iload_n 1, 1) := by decide +kernel
theorem d_X_haul_20 : decode b_X_haul 20 = .ok (.i2l, 1) := by decide +kernel
theorem d_X_haul_21 : decode b_X_haul 21 = .ok (.ladd, 1) := by decide +kernel
theorem d_X_haul_22 : decode b_X_haul 22 = .ok (.putfield 86, 3) := by decide +kernel
theorem d_X_haul_25 : decode b_X_haul 25 = .ok (.aload_n 0, 1) := by decide +kernel
theorem d_X_haul_26 : decode b_X_haul 26 = .ok (.getfield 86, 3) := by decide +kernel
theorem d_X_haul_29 : decode b_X_haul 29 = .ok (.lreturn, 1) := by decide +kernel
theorem cy_X_haul : zY y_X_haul b_X_haul 2 (some (FieldType.long)) 1 := ⟨kw_527, kw_1, by decide +kernel, by decide +kernel⟩
theorem d_X_fill_0 : decode b_X_fill 0 = .ok (.aload_n 0, 1) := by decide +kernel
theorem d_X_fill_1 : decode b_X_fill 1 = .ok (.iload_n 1, 1) := by decide +kernel
theorem d_X_fill_2 : decode b_X_fill 2 = .ok (.invokevirtual 42, 3) := by decide +kernel
theorem d_X_fill_5 : decode b_X_fill 5 = .ok (.astore_n 3, 1) := by decide +kernel
theorem d_X_fill_6 : decode b_X_fill 6 = .ok (.aload_n 3, 1) := by decide +kernel
theorem d_X_fill_7 : decode b_X_fill 7 = .ok (.ifnull 13, 3) := by decide +kernel
theorem d_X_fill_10 : decode b_X_fill 10 = .ok (.iload_n 2, 1) := by decide +kernel
theorem d_X_fill_11 : decode b_X_fill 11 = .ok (.iconst 1, 1) := by decide +kernel
theorem d_X_fill_12 : decode b_X_fill 12 = .ok (.ldc 85, 2) := by decide +kernel
theorem d_X_fill_14 : decode b_X_fill 14 = .ok (.invokestatic 22, 3) := by decide +kernel
theorem d_X_fill_17 : decode b_X_fill 17 = .ok (.ifCond .ne 5, 3) := by decide +kernel
theorem d_X_fill_20 : decode b_X_fill 20 = .ok (.iconst (-1), 1) := by decide +kernel
theorem d_X_fill_21 : decode b_X_fill 21 = .ok (.ireturn, 1) := by decide +kernel
theorem d_X_fill_22 : decode b_X_fill 22 = .ok (.aload_n 0, 1) := by decide +kernel
theorem d_X_fill_23 : decode b_X_fill 23 = .ok (.getfield 86, 3) := by decide +kernel
theorem d_X_fill_26 : decode b_X_fill 26 = .ok (.iload_n 2, 1) := by decide +kernel
theorem d_X_fill_27 : decode b_X_fill 27 = .ok (.i2l, 1) := by decide +kernel
theorem d_X_fill_28 : decode b_X_fill 28 = .ok (.lcmp, 1) := by decide +kernel
theorem d_X_fill_29 : decode b_X_fill 29 = .ok (.ifCond .ge 6, 3) := by decide +kernel
theorem d_X_fill_32 : decode b_X_fill 32 = .ok (.bipush (-3), 2) := by decide +kernel
theorem d_X_fill_34 : decode b_X_fill 34 = .ok (.ireturn, 1) := by decide +kernel
theorem d_X_fill_35 : decode b_X_fill 35 = .ok (.aload_n 3, 1) := by decide +kernel
theorem d_X_fill_36 : decode b_X_fill 36 = .ok (.getfield 90, 3) := by decide +kernel
theorem d_X_fill_39 : decode b_X_fill 39 = .ok (.iload_n 2, 1) := by decide +kernel
theorem d_X_fill_40 : decode b_X_fill 40 = .ok (.iadd, 1) := by decide +kernel
theorem d_X_fill_41 : decode b_X_fill 41 = .ok (.ldc 93, 2) := by decide +kernel
theorem d_X_fill_43 : decode b_X_fill 43 = .ok (.if_icmp .le 6, 3) := by decide +kernel
theorem d_X_fill_46 : decode b_X_fill 46 = .ok (.bipush (-2), 2) := by decide +kernel
theorem d_X_fill_48 : decode b_X_fill 48 = .ok (.ireturn, 1) := by decide +kernel
theorem d_X_fill_49 : decode b_X_fill 49 = .ok (.aload_n 0, 1) := by decide +kernel
theorem d_X_fill_50 : decode b_X_fill 50 = .ok (.dup, 1) := by decide +kernel
theorem d_X_fill_51 : decode b_X_fill 51 = .ok (.getfield 86, 3) := by decide +kernel
theorem d_X_fill_54 : decode b_X_fill 54 = .ok (.iload_n 2, 1) := by decide +kernel
theorem d_X_fill_55 : decode b_X_fill 55 = .ok (.i2l, 1) := by decide +kernel
theorem d_X_fill_56 : decode b_X_fill 56 = .ok (.lsub, 1) := by decide +kernel
theorem d_X_fill_57 : decode b_X_fill 57 = .ok (.putfield 86, 3) := by decide +kernel
theorem d_X_fill_60 : decode b_X_fill 60 = .ok (.aload_n 3, 1) := by decide +kernel
theorem d_X_fill_61 : decode b_X_fill 61 = .ok (.dup, 1) := by decide +kernel
theorem d_X_fill_62 : decode b_X_fill 62 = .ok (.getfield 90, 3) := by decide +kernel
theorem d_X_fill_65 : decode b_X_fill 65 = .ok (.iload_n 2, 1) := by decide +kernel
theorem d_X_fill_66 : decode b_X_fill 66 = .ok (.iadd, 1) := by decide +kernel
theorem d_X_fill_67 : decode b_X_fill 67 = .ok (.putfield 90, 3) := by decide +kernel
theorem d_X_fill_70 : decode b_X_fill 70 = .ok (.aload_n 3, 1) := by decide +kernel
theorem d_X_fill_71 : decode b_X_fill 71 = .ok (.getfield 90, 3) := by decide +kernel
theorem d_X_fill_74 : decode b_X_fill 74 = .ok (.ireturn, 1) := by decide +kernel
theorem cy_X_fill : zY y_X_fill b_X_fill 4 (some (FieldType.int)) 2 := ⟨kw_532, kw_1, by decide +kernel, by decide +kernel⟩
theorem d_X_light_0 : decode b_X_light 0 = .ok (.aload_n 0, 1) := by decide +kernel
theorem d_X_light_1 : decode b_X_light 1 = .ok (.iload_n 1, 1) := by decide +kernel
theorem d_X_light_2 : decode b_X_light 2 = .ok (.invokevirtual 42, 3) := by decide +kernel
theorem d_X_light_5 : decode b_X_light 5 = .ok (.astore_n 3, 1) := by decide +kernel
theorem d_X_light_6 : decode b_X_light 6 = .ok (.aload_n 3, 1) := by decide +kernel
theorem d_X_light_7 : decode b_X_light 7 = .ok (.ifnonnull 5, 3) := by decide +kernel
theorem d_X_light_10 : decode b_X_light 10 = .ok (.iconst (-1), 1) := by decide +kernel
theorem d_X_light_11 : decode b_X_light 11 = .ok (.ireturn, 1) := by decide +kernel
theorem d_X_light_12 : decode b_X_light 12 = .ok (.aload_n 3, 1) := by decide +kernel
theorem d_X_light_13 : decode b_X_light 13 = .ok (.getfield 94, 3) := by decide +kernel
theorem d_X_light_16 : decode b_X_light 16 = .ok (.iload_n 2, 1) := by decide +kernel
theorem d_X_light_17 : decode b_X_light 17 = .ok (.if_icmp .ne 5, 3) := by decide +kernel
theorem d_X_light_20 : decode b_X_light 20 = .ok (.iconst 0, 1) := by decide +kernel
theorem d_X_light_21 : decode b_X_light 21 = .ok (.ireturn, 1) := by decide +kernel
theorem d_X_light_22 : decode b_X_light 22 = .ok (.iload_n 2, 1) := by decide +kernel
theorem d_X_light_23 : decode b_X_light 23 = .ok (.ifCond .eq 13, 3) := by decide +kernel
theorem d_X_light_26 : decode b_X_light 26 = .ok (.aload_n 3, 1) := by decide +kernel
theorem d_X_light_27 : decode b_X_light 27 = .ok (.getfield 90, 3) := by decide +kernel
theorem d_X_light_30 : decode b_X_light 30 = .ok (.ifCond .ne 6, 3) := by decide +kernel
theorem d_X_light_33 : decode b_X_light 33 = .ok (.bipush (-3), 2) := by decide +kernel
theorem d_X_light_35 : decode b_X_light 35 = .ok (.ireturn, 1) := by decide +kernel
theorem d_X_light_36 : decode b_X_light 36 = .ok (.aload_n 3, 1) := by decide +kernel
theorem d_X_light_37 : decode b_X_light 37 = .ok (.iload_n 2, 1) := by decide +kernel
theorem d_X_light_38 : decode b_X_light 38 = .ok (.putfield 94, 3) := by decide +kernel
theorem d_X_light_41 : decode b_X_light 41 = .ok (.iconst 1, 1) := by decide +kernel
theorem d_X_light_42 : decode b_X_light 42 = .ok (.ireturn, 1) := by decide +kernel
theorem cy_X_light : zY y_X_light b_X_light 4 (some (FieldType.int)) 2 := ⟨kw_537, kw_1, by decide +kernel, by decide +kernel⟩
theorem d_X_night_0 : decode b_X_night 0 = .ok (.iload_n 1, 1) := by decide +kernel
theorem d_X_night_1 : decode b_X_night 1 = .ok (.iconst 1, 1) := by decide +kernel
theorem d_X_night_2 : decode b_X_night 2 = .ok (.bipush 14, 2) := by decide +kernel
theorem d_X_night_4 : decode b_X_night 4 = .ok (.invokestatic 22, 3) := by decide +kernel
theorem d_X_night_7 : decode b_X_night 7 = .ok (.ifCond .ne 5, 3) := by decide +kernel
theorem d_X_night_10 : decode b_X_night 10 = .ok (.iconst (-1), 1) := by decide +kernel
theorem d_X_night_11 : decode b_X_night 11 = .ok (.ireturn, 1) := by decide +kernel
theorem d_X_night_12 : decode b_X_night 12 = .ok (.aload_n 0, 1) := by decide +kernel
theorem d_X_night_13 : decode b_X_night 13 = .ok (.dup, 1) := by decide +kernel
theorem d_X_night_14 : decode b_X_night 14 = .ok (.getfield 98, 3) := by decide +kernel
theorem d_X_night_17 : decode b_X_night 17 = .ok (.iconst 1, 1) := by decide +kernel
theorem d_X_night_18 : decode b_X_night 18 = .ok (.iadd, 1) := by decide +kernel
theorem d_X_night_19 : decode b_X_night 19 = .ok (.putfield 98, 3) := by decide +kernel
theorem d_X_night_22 : decode b_X_night 22 = .ok (.aload_n 0, 1) := by decide +kernel
theorem d_X_night_23 : decode b_X_night 23 = .ok (.invokevirtual 101, 3) := by decide +kernel
theorem d_X_night_26 : decode b_X_night 26 = .ok (.ifCond .ne 5, 3) := by decide +kernel
theorem d_X_night_29 : decode b_X_night 29 = .ok (.iconst 0, 1) := by decide +kernel
theorem d_X_night_30 : decode b_X_night 30 = .ok (.ireturn, 1) := by decide +kernel
theorem d_X_night_31 : decode b_X_night 31 = .ok (.aload_n 0, 1) := by decide +kernel
theorem d_X_night_32 : decode b_X_night 32 = .ok (.invokevirtual 48, 3) := by decide +kernel
theorem d_X_night_35 : decode b_X_night 35 = .ok (.iconst 0, 1) := by decide +kernel
theorem d_X_night_36 : decode b_X_night 36 = .ok (.istore_n 2, 1) := by decide +kernel
theorem d_X_night_37 : decode b_X_night 37 = .ok (.iconst 0, 1) := by decide +kernel
theorem d_X_night_38 : decode b_X_night 38 = .ok (.istore_n 3, 1) := by decide +kernel
theorem d_X_night_39 : decode b_X_night 39 = .ok (.iload_n 3, 1) := by decide +kernel
theorem d_X_night_40 : decode b_X_night 40 = .ok (.aload_n 0, 1) := by decide +kernel
theorem d_X_night_41 : decode b_X_night 41 = .ok (.getfield 34, 3) := by decide +kernel
theorem d_X_night_44 : decode b_X_night 44 = .ok (.if_icmp .ge 60, 3) := by decide +kernel
theorem d_X_night_47 : decode b_X_night 47 = .ok (.aload_n 0, 1) := by decide +kernel
theorem d_X_night_48 : decode b_X_night 48 = .ok (.iload_n 3, 1) := by decide +kernel
theorem d_X_night_49 : decode b_X_night 49 = .ok (.invokevirtual 42, 3) := by decide +kernel
theorem d_X_night_52 : decode b_X_night 52 = .ok (.astore 4, 2) := by decide +kernel
theorem d_X_night_54 : decode b_X_night 54 = .ok (.aload 4, 2) := by decide +kernel
theorem d_X_night_56 : decode b_X_night 56 = .ok (.ifnull 42, 3) := by decide +kernel
theorem d_X_night_59 : decode b_X_night 59 = .ok (.aload 4, 2) := by decide +kernel
theorem d_X_night_61 : decode b_X_night 61 = .ok (.getfield 94, 3) := by decide +kernel
theorem d_X_night_64 : decode b_X_night 64 = .ok (.ifCond .eq 34, 3) := by decide +kernel
theorem d_X_night_67 : decode b_X_night 67 = .ok (.aload 4, 2) := by decide +kernel
theorem d_X_night_69 : decode b_X_night 69 = .ok (.aload 4, 2) := by decide +kernel
theorem d_X_night_71 : decode b_X_night 71 = .ok (.iload_n 1, 1) := by decide +kernel
theorem d_X_night_72 : decode b_X_night 72 = .ok (.invokevirtual 57, 3) := by decide +kernel
theorem d_X_night_75 : decode b_X_night 75 = .ok (.iconst 0, 1) := by decide +kernel
theorem d_X_night_76 : decode b_X_night 76 = .ok (.invokestatic 104, 3) := by decide +kernel
theorem d_X_night_79 : decode b_X_night 79 = .ok (.invokevirtual 110, 3) := by decide +kernel
theorem d_X_night_82 : decode b_X_night 82 = .ok (.iload_n 2, 1) := by decide +kernel
theorem d_X_night_83 : decode b_X_night 83 = .ok (.aload 4, 2) := by decide +kernel
theorem d_X_night_85 : decode b_X_night 85 = .ok (.getfield 94, 3) := by decide +kernel
theorem d_X_night_88 : decode b_X_night 88 = .ok (.ifCond .eq 7, 3) := by decide +kernel
theorem d_X_night_91 : decode b_X_night 91 = .ok (.iconst 0, 1) := by decide +kernel
theorem d_X_night_92 : decode b_X_night 92 = .ok (.goto 4, 3) := by decide +kernel
theorem d_X_night_95 : decode b_X_night 95 = .ok (.iconst 1, 1) := by decide +kernel
theorem d_X_night_96 : decode b_X_night 96 = .ok (.iadd, 1) := by decide +kernel
theorem d_X_night_97 : decode b_X_night 97 = .ok (.istore_n 2, 1) := by decide +kernel
theorem d_X_night_98 : decode b_X_night 98 = .ok (.iinc 3 1, 3) := by decide +kernel
theorem d_X_night_101 : decode b_X_night 101 = .ok (.goto (-62), 3) := by decide +kernel
theorem d_X_night_104 : decode b_X_night 104 = .ok (.iload_n 2, 1) := by decide +kernel
theorem d_X_night_105 : decode b_X_night 105 = .ok (.ireturn, 1) := by decide +kernel
theorem cy_X_night : zY y_X_night b_X_night 5 (some (FieldType.int)) 1 := ⟨kw_541, kw_1, by decide +kernel, by decide +kernel⟩
theorem d_X_seen_0 : decode b_X_seen 0 = .ok (.iload_n 1, 1) := by decide +kernel
theorem d_X_seen_1 : decode b_X_seen 1 = .ok (.iconst 0, 1) := by decide +kernel
theorem d_X_seen_2 : decode b_X_seen 2 = .ok (.bipush 9, 2) := by decide +kernel
theorem d_X_seen_4 : decode b_X_seen 4 = .ok (.invokestatic 22, 3) := by decide +kernel
theorem d_X_seen_7 : decode b_X_seen 7 = .ok (.ifCond .ne 5, 3) := by decide +kernel
theorem d_X_seen_10 : decode b_X_seen 10 = .ok (.iconst (-1), 1) := by decide +kernel
theorem d_X_seen_11 : decode b_X_seen 11 = .ok (.ireturn, 1) := by decide +kernel
theorem d_X_seen_12 : decode b_X_seen 12 = .ok (.aload_n 0, 1) := by decide +kernel
theorem d_X_seen_13 : decode b_X_seen 13 = .ok (.invokevirtual 101, 3) := by decide +kernel
theorem d_X_seen_16 : decode b_X_seen 16 = .ok (.ifCond .ne 6, 3) := by decide +kernel
theorem d_X_seen_19 : decode b_X_seen 19 = .ok (.bipush (-3), 2) := by decide +kernel
theorem d_X_seen_21 : decode b_X_seen 21 = .ok (.ireturn, 1) := by decide +kernel
theorem d_X_seen_22 : decode b_X_seen 22 = .ok (.aload_n 0, 1) := by decide +kernel
theorem d_X_seen_23 : decode b_X_seen 23 = .ok (.invokevirtual 48, 3) := by decide +kernel
theorem d_X_seen_26 : decode b_X_seen 26 = .ok (.bipush (-3), 2) := by decide +kernel
theorem d_X_seen_28 : decode b_X_seen 28 = .ok (.istore_n 2, 1) := by decide +kernel
theorem d_X_seen_29 : decode b_X_seen 29 = .ok (.iconst 0, 1) := by decide +kernel
theorem d_X_seen_30 : decode b_X_seen 30 = .ok (.istore_n 3, 1) := by decide +kernel
theorem d_X_seen_31 : decode b_X_seen 31 = .ok (.iconst 0, 1) := by decide +kernel
theorem d_X_seen_32 : decode b_X_seen 32 = .ok (.istore 4, 2) := by decide +kernel
theorem d_X_seen_34 : decode b_X_seen 34 = .ok (.iload 4, 2) := by decide +kernel
theorem d_X_seen_36 : decode b_X_seen 36 = .ok (.aload_n 0, 1) := by decide +kernel
theorem d_X_seen_37 : decode b_X_seen 37 = .ok (.getfield 34, 3) := by decide +kernel
theorem d_X_seen_40 : decode b_X_seen 40 = .ok (.if_icmp .ge 56, 3) := by decide +kernel
theorem d_X_seen_43 : decode b_X_seen 43 = .ok (.aload_n 0, 1) := by decide +kernel
theorem d_X_seen_44 : decode b_X_seen 44 = .ok (.iload 4, 2) := by decide +kernel
theorem d_X_seen_46 : decode b_X_seen 46 = .ok (.invokevirtual 42, 3) := by decide +kernel
theorem d_X_seen_49 : decode b_X_seen 49 = .ok (.astore 5, 2) := by decide +kernel
theorem d_X_seen_51 : decode b_X_seen 51 = .ok (.aload 5, 2) := by decide +kernel
theorem d_X_seen_53 : decode b_X_seen 53 = .ok (.ifnull 37, 3) := by decide +kernel
theorem d_X_seen_56 : decode b_X_seen 56 = .ok (.aload 5, 2) := by decide +kernel
theorem d_X_seen_58 : decode b_X_seen 58 = .ok (.getfield 94, 3) := by decide +kernel
theorem d_X_seen_61 : decode b_X_seen 61 = .ok (.ifCond .eq 29, 3) := by decide +kernel
theorem d_X_seen_64 : decode b_X_seen 64 = .ok (.aload 5, 2) := by decide +kernel
theorem d_X_seen_66 : decode b_X_seen 66 = .ok (.iload_n 1, 1) := by decide +kernel
theorem d_X_seen_67 : decode b_X_seen 67 = .ok (.invokevirtual 60, 3) := by decide +kernel
theorem d_X_seen_70 : decode b_X_seen 70 = .ok (.istore 6, 2) := by decide +kernel
theorem d_X_seen_72 : decode b_X_seen 72 = .ok (.iload_n 2, 1) := by decide +kernel
theorem d_X_seen_73 : decode b_X_seen 73 = .ok (.bipush (-3), 2) := by decide +kernel
theorem d_X_seen_75 : decode b_X_seen 75 = .ok (.if_icmp .eq 9, 3) := by decide +kernel
theorem d_X_seen_78 : decode b_X_seen 78 = .ok (.iload 6, 2) := by decide +kernel
theorem d_X_seen_80 : decode b_X_seen 80 = .ok (.iload_n 3, 1) := by decide +kernel
theorem d_X_seen_81 : decode b_X_seen 81 = .ok (.if_icmp .le 9, 3) := by decide +kernel
theorem d_X_seen_84 : decode b_X_seen 84 = .ok (.iload 4, 2) := by decide +kernel
theorem d_X_seen_86 : decode b_X_seen 86 = .ok (.istore_n 2, 1) := by decide +kernel
theorem d_X_seen_87 : decode b_X_seen 87 = .ok (.iload 6, 2) := by decide +kernel
theorem d_X_seen_89 : decode b_X_seen 89 = .ok (.istore_n 3, 1) := by decide +kernel
theorem d_X_seen_90 : decode b_X_seen 90 = .ok (.iinc 4 1, 3) := by decide +kernel
theorem d_X_seen_93 : decode b_X_seen 93 = .ok (.goto (-59), 3) := by decide +kernel
theorem d_X_seen_96 : decode b_X_seen 96 = .ok (.iload_n 2, 1) := by decide +kernel
theorem d_X_seen_97 : decode b_X_seen 97 = .ok (.ireturn, 1) := by decide +kernel
theorem cy_X_seen : zY y_X_seen b_X_seen 7 (some (FieldType.int)) 1 := ⟨kw_563, kw_1, by decide +kernel, by decide +kernel⟩
theorem d_X_blow_0 : decode b_X_blow 0 = .ok (.aload_n 0, 1) := by decide +kernel
theorem d_X_blow_1 : decode b_X_blow 1 = .ok (.iload_n 1, 1) := by decide +kernel
theorem d_X_blow_2 : decode b_X_blow 2 = .ok (.invokevirtual 42, 3) := by decide +kernel
theorem d_X_blow_5 : decode b_X_blow 5 = .ok (.astore_n 3, 1) := by decide +kernel
theorem d_X_blow_6 : decode b_X_blow 6 = .ok (.aload_n 3, 1) := by decide +kernel
theorem d_X_blow_7 : decode b_X_blow 7 = .ok (.ifnonnull 5, 3) := by decide +kernel
theorem d_X_blow_10 : decode b_X_blow 10 = .ok (.iconst (-1), 1) := by decide +kernel
theorem d_X_blow_11 : decode b_X_blow 11 = .ok (.ireturn, 1) := by decide +kernel
theorem d_X_blow_12 : decode b_X_blow 12 = .ok (.aload_n 0, 1) := by decide +kernel
theorem d_X_blow_13 : decode b_X_blow 13 = .ok (.invokevirtual 48, 3) := by decide +kernel
theorem d_X_blow_16 : decode b_X_blow 16 = .ok (.aload_n 3, 1) := by decide +kernel
theorem d_X_blow_17 : decode b_X_blow 17 = .ok (.invokevirtual 51, 3) := by decide +kernel
theorem d_X_blow_20 : decode b_X_blow 20 = .ok (.ifCond .ne 6, 3) := by decide +kernel
theorem d_X_blow_23 : decode b_X_blow 23 = .ok (.bipush (-4), 2) := by decide +kernel
theorem d_X_blow_25 : decode b_X_blow 25 = .ok (.ireturn, 1) := by decide +kernel
theorem d_X_blow_26 : decode b_X_blow 26 = .ok (.aload_n 0, 1) := by decide +kernel
theorem d_X_blow_27 : decode b_X_blow 27 = .ok (.aload_n 3, 1) := by decide +kernel
theorem d_X_blow_28 : decode b_X_blow 28 = .ok (.iload_n 2, 1) := by decide +kernel
theorem d_X_blow_29 : decode b_X_blow 29 = .ok (.invokevirtual 73, 3) := by decide +kernel
theorem d_X_blow_32 : decode b_X_blow 32 = .ok (.putfield 114, 3) := by decide +kernel
theorem d_X_blow_35 : decode b_X_blow 35 = .ok (.iconst 1, 1) := by decide +kernel
theorem d_X_blow_36 : decode b_X_blow 36 = .ok (.ireturn, 1) := by decide +kernel
theorem cy_X_blow : zY y_X_blow b_X_blow 4 (some (FieldType.int)) 2 := ⟨kw_567, kw_1, by decide +kernel, by decide +kernel⟩
theorem d_X_blown_0 : decode b_X_blown 0 = .ok (.aload_n 0, 1) := by decide +kernel
theorem d_X_blown_1 : decode b_X_blown 1 = .ok (.getfield 114, 3) := by decide +kernel
theorem d_X_blown_4 : decode b_X_blown 4 = .ok (.ireturn, 1) := by decide +kernel
theorem cy_X_blown : zY y_X_blown b_X_blown 1 (some (FieldType.int)) 0 := ⟨kw_571, kw_1, by decide +kernel, by decide +kernel⟩
theorem d_X_told_0 : decode b_X_told 0 = .ok (.aload_n 0, 1) := by decide +kernel
theorem d_X_told_1 : decode b_X_told 1 = .ok (.iload_n 1, 1) := by decide +kernel
theorem d_X_told_2 : decode b_X_told 2 = .ok (.invokevirtual 42, 3) := by decide +kernel
theorem d_X_told_5 : decode b_X_told 5 = .ok (.astore_n 3, 1) := by decide +kernel
theorem d_X_told_6 : decode b_X_told 6 = .ok (.aload_n 3, 1) := by decide +kernel
theorem d_X_told_7 : decode b_X_told 7 = .ok (.ifnonnull 7, 3) := by decide +kernel
theorem d_X_told_10 : decode b_X_told 10 = .ok (.ldc2_w 46, 3) := by decide +kernel
theorem d_X_told_13 : decode b_X_told 13 = .ok (.lreturn, 1) := by decide +kernel
theorem d_X_told_14 : decode b_X_told 14 = .ok (.iload_n 2, 1) := by decide +kernel
theorem d_X_told_15 : decode b_X_told 15 = .ok (.tableswitch 87 0 5 #[37, 43, 49, 55, 61, 74], 37) := by decide +kernel
theorem d_X_told_52 : decode b_X_told 52 = .ok (.aload_n 3, 1) := by decide +kernel
theorem d_X_told_53 : decode b_X_told 53 = .ok (.getfield 117, 3) := by decide +kernel
theorem d_X_told_56 : decode b_X_told 56 = .ok (.i2l, 1) := by decide +kernel
theorem d_X_told_57 : decode b_X_told 57 = .ok (.lreturn, 1) := by decide +kernel
theorem d_X_told_58 : decode b_X_told 58 = .ok (.aload_n 3, 1) := by decide +kernel
theorem d_X_told_59 : decode b_X_told 59 = .ok (.getfield 120, 3) := by decide +kernel
theorem d_X_told_62 : decode b_X_told 62 = .ok (.i2l, 1) := by decide +kernel
theorem d_X_told_63 : decode b_X_told 63 = .ok (.lreturn, 1) := by decide +kernel
theorem d_X_told_64 : decode b_X_told 64 = .ok (.aload_n 3, 1) := by decide +kernel
theorem d_X_told_65 : decode b_X_told 65 = .ok (.getfield 90, 3) := by decide +kernel
theorem d_X_told_68 : decode b_X_told 68 = .ok (.i2l, 1) := by decide +kernel
theorem d_X_told_69 : decode b_X_told 69 = .ok (.lreturn, 1) := by decide +kernel
theorem d_X_told_70 : decode b_X_told 70 = .ok (.aload_n 3, 1) := by decide +kernel
theorem d_X_told_71 : decode b_X_told 71 = .ok (.getfield 123, 3) := by decide +kernel
theorem d_X_told_74 : decode b_X_told 74 = .ok (.i2l, 1) := by decide +kernel
theorem d_X_told_75 : decode b_X_told 75 = .ok (.lreturn, 1) := by decide +kernel
theorem d_X_told_76 : decode b_X_told 76 = .ok (.aload_n 3, 1) := by decide +kernel
theorem d_X_told_77 : decode b_X_told 77 = .ok (.getfield 94, 3) := by decide +kernel
theorem d_X_told_80 : decode b_X_told 80 = .ok (.ifCond .eq 7, 3) := by decide +kernel
theorem d_X_told_83 : decode b_X_told 83 = .ok (.lconst 1, 1) := by decide +kernel
theorem d_X_told_84 : decode b_X_told 84 = .ok (.goto 4, 3) := by decide +kernel
theorem d_X_told_87 : decode b_X_told 87 = .ok (.lconst 0, 1) := by decide +kernel
theorem d_X_told_88 : decode b_X_told 88 = .ok (.lreturn, 1) := by decide +kernel
theorem d_X_told_89 : decode b_X_told 89 = .ok (.aload_n 3, 1) := by decide +kernel
theorem d_X_told_90 : decode b_X_told 90 = .ok (.invokevirtual 51, 3) := by decide +kernel
theorem d_X_told_93 : decode b_X_told 93 = .ok (.ifCond .eq 7, 3) := by decide +kernel
theorem d_X_told_96 : decode b_X_told 96 = .ok (.lconst 1, 1) := by decide +kernel
theorem d_X_told_97 : decode b_X_told 97 = .ok (.goto 4, 3) := by decide +kernel
theorem d_X_told_100 : decode b_X_told 100 = .ok (.lconst 0, 1) := by decide +kernel
theorem d_X_told_101 : decode b_X_told 101 = .ok (.lreturn, 1) := by decide +kernel
theorem d_X_told_102 : decode b_X_told 102 = .ok (.ldc2_w 46, 3) := by decide +kernel
theorem d_X_told_105 : decode b_X_told 105 = .ok (.lreturn, 1) := by decide +kernel
theorem cy_X_told : zY y_X_told b_X_told 4 (some (FieldType.long)) 2 := ⟨kw_575, kw_1, by decide +kernel, by decide +kernel⟩
theorem d_X_count_0 : decode b_X_count 0 = .ok (.iload_n 1, 1) := by decide +kernel
theorem d_X_count_1 : decode b_X_count 1 = .ok (.tableswitch 54 0 3 #[31, 36, 41, 49], 31) := by decide +kernel
theorem d_X_count_32 : decode b_X_count 32 = .ok (.aload_n 0, 1) := by decide +kernel
theorem d_X_count_33 : decode b_X_count 33 = .ok (.getfield 34, 3) := by decide +kernel
theorem d_X_count_36 : decode b_X_count 36 = .ok (.ireturn, 1) := by decide +kernel
theorem d_X_count_37 : decode b_X_count 37 = .ok (.aload_n 0, 1) := by decide +kernel
theorem d_X_count_38 : decode b_X_count 38 = .ok (.getfield 98, 3) := by decide +kernel
theorem d_X_count_41 : decode b_X_count 41 = .ok (.ireturn, 1) := by decide +kernel
theorem d_X_count_42 : decode b_X_count 42 = .ok (.aload_n 0, 1) := by decide +kernel
theorem d_X_count_43 : decode b_X_count 43 = .ok (.getfield 12, 3) := by decide +kernel
theorem d_X_count_46 : decode b_X_count 46 = .ok (.getfield 79, 3) := by decide +kernel
theorem d_X_count_49 : decode b_X_count 49 = .ok (.ireturn, 1) := by decide +kernel
theorem d_X_count_50 : decode b_X_count 50 = .ok (.aload_n 0, 1) := by decide +kernel
theorem d_X_count_51 : decode b_X_count 51 = .ok (.getfield 126, 3) := by decide +kernel
theorem d_X_count_54 : decode b_X_count 54 = .ok (.ireturn, 1) := by decide +kernel
theorem d_X_count_55 : decode b_X_count 55 = .ok (.iconst (-1), 1) := by decide +kernel
theorem d_X_count_56 : decode b_X_count 56 = .ok (.ireturn, 1) := by decide +kernel
theorem cy_X_count : zY y_X_count b_X_count 2 (some (FieldType.int)) 1 := ⟨kw_579, kw_1, by decide +kernel, by decide +kernel⟩
theorem d_X_store_0 : decode b_X_store 0 = .ok (.aload_n 0, 1) := by decide +kernel
theorem d_X_store_1 : decode b_X_store 1 = .ok (.getfield 86, 3) := by decide +kernel
theorem d_X_store_4 : decode b_X_store 4 = .ok (.lreturn, 1) := by decide +kernel
theorem cy_X_store : zY y_X_store b_X_store 1 (some (FieldType.long)) 0 := ⟨kw_583, kw_1, by decide +kernel, by decide +kernel⟩
theorem d_X_within_0 : decode b_X_within 0 = .ok (.iload_n 0, 1) := by decide +kernel
theorem d_X_within_1 : decode b_X_within 1 = .ok (.iload_n 1, 1) := by decide +kernel
theorem d_X_within_2 : decode b_X_within 2 = .ok (.if_icmp .lt 12, 3) := by decide +kernel
theorem d_X_within_5 : decode b_X_within 5 = .ok (.iload_n 0, 1) := by decide +kernel
theorem d_X_within_6 : decode b_X_within 6 = .ok (.iload_n 2, 1) := by decide +kernel
theorem d_X_within_7 : decode b_X_within 7 = .ok (.if_icmp .gt 7, 3) := by decide +kernel
theorem d_X_within_10 : decode b_X_within 10 = .ok (.iconst 1, 1) := by decide +kernel
theorem d_X_within_11 : decode b_X_within 11 = .ok (.goto 4, 3) := by decide +kernel
theorem d_X_within_14 : decode b_X_within 14 = .ok (.iconst 0, 1) := by decide +kernel
theorem d_X_within_15 : decode b_X_within 15 = .ok (.ireturn, 1) := by decide +kernel
theorem cy_X_within : zY y_X_within b_X_within 3 (some (FieldType.boolean)) 3 := ⟨kw_71, kw_1, by decide +kernel, by decide +kernel⟩
theorem d_X_lampAt_0 : decode b_X_lampAt 0 = .ok (.iload_n 1, 1) := by decide +kernel
theorem d_X_lampAt_1 : decode b_X_lampAt 1 = .ok (.iconst 0, 1) := by decide +kernel
theorem d_X_lampAt_2 : decode b_X_lampAt 2 = .ok (.aload_n 0, 1) := by decide +kernel
theorem d_X_lampAt_3 : decode b_X_lampAt 3 = .ok (.getfield 34, 3) := by decide +kernel
theorem d_X_lampAt_6 : decode b_X_lampAt 6 = .ok (.iconst 1, 1) := by decide +kernel
theorem d_X_lampAt_7 : decode b_X_lampAt 7 = .ok (.isub, 1) := by decide +kernel
theorem d_X_lampAt_8 : decode b_X_lampAt 8 = .ok (.invokestatic 22, 3) := by decide +kernel
theorem d_X_lampAt_11 : decode b_X_lampAt 11 = .ok (.ifCond .eq 21, 3) := by decide +kernel
theorem d_X_lampAt_14 : decode b_X_lampAt 14 = .ok (.iload_n 1, 1) := by decide +kernel
theorem d_X_lampAt_15 : decode b_X_lampAt 15 = .ok (.aload_n 0, 1) := by decide +kernel
theorem d_X_lampAt_16 : decode b_X_lampAt 16 = .ok (.getfield 18, 3) := by decide +kernel
theorem d_X_lampAt_19 : decode b_X_lampAt 19 = .ok (.arraylength, 1) := by decide +kernel
theorem d_X_lampAt_20 : decode b_X_lampAt 20 = .ok (.if_icmp .ge 12, 3) := by decide +kernel
theorem d_X_lampAt_23 : decode b_X_lampAt 23 = .ok (.aload_n 0, 1) := by decide +kernel
theorem d_X_lampAt_24 : decode b_X_lampAt 24 = .ok (.getfield 18, 3) := by decide +kernel
theorem d_X_lampAt_27 : decode b_X_lampAt 27 = .ok (.iload_n 1, 1) := by decide +kernel
theorem d_X_lampAt_28 : decode b_X_lampAt 28 = .ok (.aaload, 1) := by decide +kernel
theorem d_X_lampAt_29 : decode b_X_lampAt 29 = .ok (.goto 4, 3) := by decide +kernel
theorem d_X_lampAt_32 : decode b_X_lampAt 32 = .ok (.aconst_null, 1) := by decide +kernel
theorem d_X_lampAt_33 : decode b_X_lampAt 33 = .ok (.areturn, 1) := by decide +kernel
theorem cy_X_lampAt : zY y_X_lampAt b_X_lampAt 2 (some (FieldType.object "CoastLamps$Lamp")) 1 := ⟨kw_258, kw_1, by decide +kernel, by decide +kernel⟩
theorem d_X_anyLit_0 : decode b_X_anyLit 0 = .ok (.iconst 0, 1) := by decide +kernel
theorem d_X_anyLit_1 : decode b_X_anyLit 1 = .ok (.istore_n 1, 1) := by decide +kernel
theorem d_X_anyLit_2 : decode b_X_anyLit 2 = .ok (.iload_n 1, 1) := by decide +kernel
theorem d_X_anyLit_3 : decode b_X_anyLit 3 = .ok (.aload_n 0, 1) := by decide +kernel
theorem d_X_anyLit_4 : decode b_X_anyLit 4 = .ok (.getfield 34, 3) := by decide +kernel
theorem d_X_anyLit_7 : decode b_X_anyLit 7 = .ok (.if_icmp .ge 28, 3) := by decide +kernel
theorem d_X_anyLit_10 : decode b_X_anyLit 10 = .ok (.aload_n 0, 1) := by decide +kernel
theorem d_X_anyLit_11 : decode b_X_anyLit 11 = .ok (.iload_n 1, 1) := by decide +kernel
theorem d_X_anyLit_12 : decode b_X_anyLit 12 = .ok (.invokevirtual 42, 3) := by decide +kernel
theorem d_X_anyLit_15 : decode b_X_anyLit 15 = .ok (.astore_n 2, 1) := by decide +kernel
theorem d_X_anyLit_16 : decode b_X_anyLit 16 = .ok (.aload_n 2, 1) := by decide +kernel
theorem d_X_anyLit_17 : decode b_X_anyLit 17 = .ok (.ifnull 12, 3) := by decide +kernel
theorem d_X_anyLit_20 : decode b_X_anyLit 20 = .ok (.aload_n 2, 1) := by decide +kernel
theorem d_X_anyLit_21 : decode b_X_anyLit 21 = .ok (.getfield 94, 3) := by decide +kernel
theorem d_X_anyLit_24 : decode b_X_anyLit 24 = .ok (.ifCond .eq 5, 3) := by decide +kernel
theorem d_X_anyLit_27 : decode b_X_anyLit 27 = .ok (.iconst 1, 1) := by decide +kernel
theorem d_X_anyLit_28 : decode b_X_anyLit 28 = .ok (.ireturn, 1) := by decide +kernel
theorem d_X_anyLit_29 : decode b_X_anyLit 29 = .ok (.iinc 1 1, 3) := by decide +kernel
theorem d_X_anyLit_32 : decode b_X_anyLit 32 = .ok (.goto (-30), 3) := by decide +kernel
theorem d_X_anyLit_35 : decode b_X_anyLit 35 = .ok (.iconst 0, 1) := by decide +kernel
theorem d_X_anyLit_36 : decode b_X_anyLit 36 = .ok (.ireturn, 1) := by decide +kernel
theorem cy_X_anyLit : zY y_X_anyLit b_X_anyLit 3 (some (FieldType.boolean)) 0 := ⟨kw_545, kw_1, by decide +kernel, by decide +kernel⟩
theorem d_X_beginAct_0 : decode b_X_beginAct 0 = .ok (.aload_n 0, 1) := by decide +kernel
theorem d_X_beginAct_1 : decode b_X_beginAct 1 = .ok (.dup, 1) := by decide +kernel
theorem d_X_beginAct_2 : decode b_X_beginAct 2 = .ok (.getfield 126, 3) := by decide +kernel
theorem d_X_beginAct_5 : decode b_X_beginAct 5 = .ok (.iconst 1, 1) := by decide +kernel
theorem d_X_beginAct_6 : decode b_X_beginAct 6 = .ok (.iadd, 1) := by decide +kernel
theorem d_X_beginAct_7 : decode b_X_beginAct 7 = .ok (.putfield 126, 3) := by decide +kernel
theorem d_X_beginAct_10 : decode b_X_beginAct 10 = .ok (.aload_n 0, 1) := by decide +kernel
theorem d_X_beginAct_11 : decode b_X_beginAct 11 = .ok (.getfield 12, 3) := by decide +kernel
theorem d_X_beginAct_14 : decode b_X_beginAct 14 = .ok (.invokevirtual 129, 3) := by decide +kernel
theorem d_X_beginAct_17 : decode b_X_beginAct 17 = .ok (.return_, 1) := by decide +kernel
theorem cy_X_beginAct : zY y_X_beginAct b_X_beginAct 1 none 0 := ⟨kw_263, kw_1, by decide +kernel, by decide +kernel⟩
theorem d_X_made_0 : decode b_X_made 0 = .ok (.iload_n 1, 1) := by decide +kernel
theorem d_X_made_1 : decode b_X_made 1 = .ok (.tableswitch 159 1 8 #[47, 61, 75, 89, 103, 117, 131, 145], 47) := by decide +kernel
theorem d_X_made_48 : decode b_X_made 48 = .ok (.new 132, 3) := by decide +kernel
theorem d_X_made_51 : decode b_X_made 51 = .ok (.dup, 1) := by decide +kernel
theorem d_X_made_52 : decode b_X_made 52 = .ok (.aload_n 0, 1) := by decide +kernel
theorem d_X_made_53 : decode b_X_made 53 = .ok (.getfield 12, 3) := by decide +kernel
theorem d_X_made_56 : decode b_X_made 56 = .ok (.iload_n 1, 1) := by decide +kernel
theorem d_X_made_57 : decode b_X_made 57 = .ok (.iload_n 2, 1) := by decide +kernel
theorem d_X_made_58 : decode b_X_made 58 = .ok (.invokespecial 134, 3) := by decide +kernel
theorem d_X_made_61 : decode b_X_made 61 = .ok (.areturn, 1) := by decide +kernel
theorem d_X_made_62 : decode b_X_made 62 = .ok (.new 137, 3) := by decide +kernel
theorem d_X_made_65 : decode b_X_made 65 = .ok (.dup, 1) := by decide +kernel
theorem d_X_made_66 : decode b_X_made 66 = .ok (.aload_n 0, 1) := by decide +kernel
theorem d_X_made_67 : decode b_X_made 67 = .ok (.getfield 12, 3) := by decide +kernel
theorem d_X_made_70 : decode b_X_made 70 = .ok (.iload_n 1, 1) := by decide +kernel
theorem d_X_made_71 : decode b_X_made 71 = .ok (.iload_n 2, 1) := by decide +kernel
theorem d_X_made_72 : decode b_X_made 72 = .ok (.invokespecial 139, 3) := by decide +kernel
theorem d_X_made_75 : decode b_X_made 75 = .ok (.areturn, 1) := by decide +kernel
theorem d_X_made_76 : decode b_X_made 76 = .ok (.new 140, 3) := by decide +kernel
theorem d_X_made_79 : decode b_X_made 79 = .ok (.dup, 1) := by decide +kernel
theorem d_X_made_80 : decode b_X_made 80 = .ok (.aload_n 0, 1) := by decide +kernel
theorem d_X_made_81 : decode b_X_made 81 = .ok (.getfield 12, 3) := by decide +kernel
theorem d_X_made_84 : decode b_X_made 84 = .ok (.iload_n 1, 1) := by decide +kernel
theorem d_X_made_85 : decode b_X_made 85 = .ok (.iload_n 2, 1) := by decide +kernel
theorem d_X_made_86 : decode b_X_made 86 = .ok (.invokespecial 142, 3) := by decide +kernel
theorem d_X_made_89 : decode b_X_made 89 = .ok (.areturn, 1) := by decide +kernel
theorem d_X_made_90 : decode b_X_made 90 = .ok (.new 143, 3) := by decide +kernel
theorem d_X_made_93 : decode b_X_made 93 = .ok (.dup, 1) := by decide +kernel
theorem d_X_made_94 : decode b_X_made 94 = .ok (.aload_n 0, 1) := by decide +kernel
theorem d_X_made_95 : decode b_X_made 95 = .ok (.getfield 12, 3) := by decide +kernel
theorem d_X_made_98 : decode b_X_made 98 = .ok (.iload_n 1, 1) := by decide +kernel
theorem d_X_made_99 : decode b_X_made 99 = .ok (.iload_n 2, 1) := by decide +kernel
theorem d_X_made_100 : decode b_X_made 100 = .ok (.invokespecial 145, 3) := by decide +kernel
theorem d_X_made_103 : decode b_X_made 103 = .ok (.areturn, 1) := by decide +kernel
theorem d_X_made_104 : decode b_X_made 104 = .ok (.new 146, 3) := by decide +kernel
theorem d_X_made_107 : decode b_X_made 107 = .ok (.dup, 1) := by decide +kernel
theorem d_X_made_108 : decode b_X_made 108 = .ok (.aload_n 0, 1) := by decide +kernel
theorem d_X_made_109 : decode b_X_made 109 = .ok (.getfield 12, 3) := by decide +kernel
theorem d_X_made_112 : decode b_X_made 112 = .ok (.iload_n 1, 1) := by decide +kernel
theorem d_X_made_113 : decode b_X_made 113 = .ok (.iload_n 2, 1) := by decide +kernel
theorem d_X_made_114 : decode b_X_made 114 = .ok (.invokespecial 148, 3) := by decide +kernel
theorem d_X_made_117 : decode b_X_made 117 = .ok (.areturn, 1) := by decide +kernel
theorem d_X_made_118 : decode b_X_made 118 = .ok (.new 149, 3) := by decide +kernel
theorem d_X_made_121 : decode b_X_made 121 = .ok (.dup, 1) := by decide +kernel
theorem d_X_made_122 : decode b_X_made 122 = .ok (.aload_n 0, 1) := by decide +kernel
theorem d_X_made_123 : decode b_X_made 123 = .ok (.getfield 12, 3) := by decide +kernel
theorem d_X_made_126 : decode b_X_made 126 = .ok (.iload_n 1, 1) := by decide +kernel
theorem d_X_made_127 : decode b_X_made 127 = .ok (.iload_n 2, 1) := by decide +kernel
theorem d_X_made_128 : decode b_X_made 128 = .ok (.invokespecial 151, 3) := by decide +kernel
theorem d_X_made_131 : decode b_X_made 131 = .ok (.areturn, 1) := by decide +kernel
theorem d_X_made_132 : decode b_X_made 132 = .ok (.new 152, 3) := by decide +kernel
theorem d_X_made_135 : decode b_X_made 135 = .ok (.dup, 1) := by decide +kernel
theorem d_X_made_136 : decode b_X_made 136 = .ok (.aload_n 0, 1) := by decide +kernel
theorem d_X_made_137 : decode b_X_made 137 = .ok (.getfield 12, 3) := by decide +kernel
theorem d_X_made_140 : decode b_X_made 140 = .ok (.iload_n 1, 1) := by decide +kernel
theorem d_X_made_141 : decode b_X_made 141 = .ok (.iload_n 2, 1) := by decide +kernel
theorem d_X_made_142 : decode b_X_made 142 = .ok (.invokespecial 154, 3) := by decide +kernel
theorem d_X_made_145 : decode b_X_made 145 = .ok (.areturn, 1) := by decide +kernel
theorem d_X_made_146 : decode b_X_made 146 = .ok (.new 155, 3) := by decide +kernel
theorem d_X_made_149 : decode b_X_made 149 = .ok (.dup, 1) := by decide +kernel
theorem d_X_made_150 : decode b_X_made 150 = .ok (.aload_n 0, 1) := by decide +kernel
theorem d_X_made_151 : decode b_X_made 151 = .ok (.getfield 12, 3) := by decide +kernel
theorem d_X_made_154 : decode b_X_made 154 = .ok (.iload_n 1, 1) := by decide +kernel
theorem d_X_made_155 : decode b_X_made 155 = .ok (.iload_n 2, 1) := by decide +kernel
theorem d_X_made_156 : decode b_X_made 156 = .ok (.invokespecial 157, 3) := by decide +kernel
theorem d_X_made_159 : decode b_X_made 159 = .ok (.areturn, 1) := by decide +kernel
theorem d_X_made_160 : decode b_X_made 160 = .ok (.new 158, 3) := by decide +kernel
theorem d_X_made_163 : decode b_X_made 163 = .ok (.dup, 1) := by decide +kernel
theorem d_X_made_164 : decode b_X_made 164 = .ok (.aload_n 0, 1) := by decide +kernel
theorem d_X_made_165 : decode b_X_made 165 = .ok (.getfield 12, 3) := by decide +kernel
theorem d_X_made_168 : decode b_X_made 168 = .ok (.iload_n 1, 1) := by decide +kernel
theorem d_X_made_169 : decode b_X_made 169 = .ok (.iload_n 2, 1) := by decide +kernel
theorem d_X_made_170 : decode b_X_made 170 = .ok (.invokespecial 160, 3) := by decide +kernel
theorem d_X_made_173 : decode b_X_made 173 = .ok (.areturn, 1) := by decide +kernel
theorem cy_X_made : zY y_X_made b_X_made 3 (some (FieldType.object "CoastLamps$Lamp")) 2 := ⟨kw_87, kw_1, by decide +kernel, by decide +kernel⟩
end
section
theorem d_M_init_0 : decode b_M_init 0 = .ok (.aload_n 0, 1) := by decide +kernel
theorem d_M_init_1 : decode b_M_init 1 = .ok (.invokespecial 1, 3) := by decide +kernel
theorem d_M_init_4 : decode b_M_init 4 = .ok (.aload_n 0, 1) := by decide +kernel
theorem d_M_init_5 : decode b_M_init 5 = .ok (.bipush 8, 2) := by decide +kernel
theorem d_M_init_7 : decode b_M_init 7 = .ok (.newarray .int, 2) := by decide +kernel
theorem d_M_init_9 : decode b_M_init 9 = .ok (.putfield 7, 3) := by decide +kernel
theorem d_M_init_12 : decode b_M_init 12 = .ok (.aload_n 0, 1) := by decide +kernel
theorem d_M_init_13 : decode b_M_init 13 = .ok (.bipush 60, 2) := by decide +kernel
theorem d_M_init_15 : decode b_M_init 15 = .ok (.newarray .int, 2) := by decide +kernel
theorem d_M_init_17 : decode b_M_init 17 = .ok (.putfield 13, 3) := by decide +kernel
theorem d_M_init_20 : decode b_M_init 20 = .ok (.aload_n 0, 1) := by decide +kernel
theorem d_M_init_21 : decode b_M_init 21 = .ok (.bipush 60, 2) := by decide +kernel
theorem d_M_init_23 : decode b_M_init 23 = .ok (.newarray .int, 2) := by decide +kernel
theorem d_M_init_25 : decode b_M_init 25 = .ok (.putfield 16, 3) := by decide +kernel
theorem d_M_init_28 : decode b_M_init 28 = .ok (.aload_n 0, 1) := by decide +kernel
theorem d_M_init_29 : decode b_M_init 29 = .ok (.bipush 60, 2) := by decide +kernel
theorem d_M_init_31 : decode b_M_init 31 = .ok (.newarray .int, 2) := by decide +kernel
theorem d_M_init_33 : decode b_M_init 33 = .ok (.putfield 19, 3) := by decide +kernel
theorem d_M_init_36 : decode b_M_init 36 = .ok (.aload_n 0, 1) := by decide +kernel
theorem d_M_init_37 : decode b_M_init 37 = .ok (.bipush 60, 2) := by decide +kernel
theorem d_M_init_39 : decode b_M_init 39 = .ok (.newarray .int, 2) := by decide +kernel
theorem d_M_init_41 : decode b_M_init 41 = .ok (.putfield 22, 3) := by decide +kernel
theorem d_M_init_44 : decode b_M_init 44 = .ok (.aload_n 0, 1) := by decide +kernel
theorem d_M_init_45 : decode b_M_init 45 = .ok (.bipush 60, 2) := by decide +kernel
theorem d_M_init_47 : decode b_M_init 47 = .ok (.newarray .boolean, 2) := by decide +kernel
theorem d_M_init_49 : decode b_M_init 49 = .ok (.putfield 25, 3) := by decide +kernel
theorem d_M_init_52 : decode b_M_init 52 = .ok (.aload_n 0, 1) := by decide +kernel
theorem d_M_init_53 : decode b_M_init 53 = .ok (.sipush 1000, 3) := by decide +kernel
theorem d_M_init_56 : decode b_M_init 56 = .ok (.newarray .int, 2) := by decide +kernel
theorem d_M_init_58 : decode b_M_init 58 = .ok (.putfield 29, 3) := by decide +kernel
theorem d_M_init_61 : decode b_M_init 61 = .ok (.return_, 1) := by decide +kernel
theorem cy_M_init : zY y_M_init b_M_init 1 none 0 := ⟨kw_588, kw_3, by decide +kernel, by decide +kernel⟩
theorem d_M_in_0 : decode b_M_in 0 = .ok (.iload_n 0, 1) := by decide +kernel
theorem d_M_in_1 : decode b_M_in 1 = .ok (.iload_n 1, 1) := by decide +kernel
theorem d_M_in_2 : decode b_M_in 2 = .ok (.if_icmp .lt 12, 3) := by decide +kernel
theorem d_M_in_5 : decode b_M_in 5 = .ok (.iload_n 0, 1) := by decide +kernel
theorem d_M_in_6 : decode b_M_in 6 = .ok (.iload_n 2, 1) := by decide +kernel
theorem d_M_in_7 : decode b_M_in 7 = .ok (.if_icmp .gt 7, 3) := by decide +kernel
theorem d_M_in_10 : decode b_M_in 10 = .ok (.iconst 1, 1) := by decide +kernel
theorem d_M_in_11 : decode b_M_in 11 = .ok (.goto 4, 3) := by decide +kernel
theorem d_M_in_14 : decode b_M_in 14 = .ok (.iconst 0, 1) := by decide +kernel
theorem d_M_in_15 : decode b_M_in 15 = .ok (.ireturn, 1) := by decide +kernel
theorem cy_M_in : zY y_M_in b_M_in 3 (some (FieldType.boolean)) 3 := ⟨kw_637, kw_3, by decide +kernel, by decide +kernel⟩
theorem d_M_isLamp_0 : decode b_M_isLamp 0 = .ok (.iload_n 1, 1) := by decide +kernel
theorem d_M_isLamp_1 : decode b_M_isLamp 1 = .ok (.iconst 0, 1) := by decide +kernel
theorem d_M_isLamp_2 : decode b_M_isLamp 2 = .ok (.aload_n 0, 1) := by decide +kernel
theorem d_M_isLamp_3 : decode b_M_isLamp 3 = .ok (.getfield 32, 3) := by decide +kernel
theorem d_M_isLamp_6 : decode b_M_isLamp 6 = .ok (.iconst 1, 1) := by decide +kernel
theorem d_M_isLamp_7 : decode b_M_isLamp 7 = .ok (.isub, 1) := by decide +kernel
theorem d_M_isLamp_8 : decode b_M_isLamp 8 = .ok (.invokestatic 36, 3) := by decide +kernel
theorem d_M_isLamp_11 : decode b_M_isLamp 11 = .ok (.ireturn, 1) := by decide +kernel
theorem cy_M_isLamp : zY y_M_isLamp b_M_isLamp 2 (some (FieldType.boolean)) 1 := ⟨kw_649, kw_3, by decide +kernel, by decide +kernel⟩
theorem d_M_isHorned_0 : decode b_M_isHorned 0 = .ok (.aload_n 0, 1) := by decide +kernel
theorem d_M_isHorned_1 : decode b_M_isHorned 1 = .ok (.getfield 13, 3) := by decide +kernel
theorem d_M_isHorned_4 : decode b_M_isHorned 4 = .ok (.iload_n 1, 1) := by decide +kernel
theorem d_M_isHorned_5 : decode b_M_isHorned 5 = .ok (.iaload, 1) := by decide +kernel
theorem d_M_isHorned_6 : decode b_M_isHorned 6 = .ok (.iconst 3, 1) := by decide +kernel
theorem d_M_isHorned_7 : decode b_M_isHorned 7 = .ok (.iconst 5, 1) := by decide +kernel
theorem d_M_isHorned_8 : decode b_M_isHorned 8 = .ok (.invokestatic 36, 3) := by decide +kernel
theorem d_M_isHorned_11 : decode b_M_isHorned 11 = .ok (.ifCond .ne 14, 3) := by decide +kernel
theorem d_M_isHorned_14 : decode b_M_isHorned 14 = .ok (.aload_n 0, 1) := by decide +kernel
theorem d_M_isHorned_15 : decode b_M_isHorned 15 = .ok (.getfield 13, 3) := by decide +kernel
theorem d_M_isHorned_18 : decode b_M_isHorned 18 = .ok (.iload_n 1, 1) := by decide +kernel
theorem d_M_isHorned_19 : decode b_M_isHorned 19 = .ok (.iaload, 1) := by decide +kernel
theorem d_M_isHorned_20 : decode b_M_isHorned 20 = .ok (.bipush 6, 2) := by decide +kernel
theorem d_M_isHorned_22 : decode b_M_isHorned 22 = .ok (.if_icmp .le 7, 3) := by decide +kernel
theorem d_M_isHorned_25 : decode b_M_isHorned 25 = .ok (.iconst 1, 1) := by decide +kernel
theorem d_M_isHorned_26 : decode b_M_isHorned 26 = .ok (.goto 4, 3) := by decide +kernel
theorem d_M_isHorned_29 : decode b_M_isHorned 29 = .ok (.iconst 0, 1) := by decide +kernel
theorem d_M_isHorned_30 : decode b_M_isHorned 30 = .ok (.ireturn, 1) := by decide +kernel
theorem cy_M_isHorned : zY y_M_isHorned b_M_isHorned 2 (some (FieldType.boolean)) 1 := ⟨kw_658, kw_3, by decide +kernel, by decide +kernel⟩
theorem d_M_begins_0 : decode b_M_begins 0 = .ok (.aload_n 0, 1) := by decide +kernel
theorem d_M_begins_1 : decode b_M_begins 1 = .ok (.getfield 40, 3) := by decide +kernel
theorem d_M_begins_4 : decode b_M_begins 4 = .ok (.sipush 1000, 3) := by decide +kernel
theorem d_M_begins_7 : decode b_M_begins 7 = .ok (.if_icmp .ge 23, 3) := by decide +kernel
theorem d_M_begins_10 : decode b_M_begins 10 = .ok (.aload_n 0, 1) := by decide +kernel
theorem d_M_begins_11 : decode b_M_begins 11 = .ok (.getfield 29, 3) := by decide +kernel
theorem d_M_begins_14 : decode b_M_begins 14 = .ok (.aload_n 0, 1) := by decide +kernel
theorem d_M_begins_15 : decode b_M_begins 15 = .ok (.getfield 40, 3) := by decide +kernel
theorem d_M_begins_18 : decode b_M_begins 18 = .ok (.iload_n 1, 1) := by decide +kernel
theorem d_M_begins_19 : decode b_M_begins 19 = .ok (.iastore, 1) := by decide +kernel
theorem d_M_begins_20 : decode b_M_begins 20 = .ok (.aload_n 0, 1) := by decide +kernel
theorem d_M_begins_21 : decode b_M_begins 21 = .ok (.dup, 1) := by decide +kernel
theorem d_M_begins_22 : decode b_M_begins 22 = .ok (.getfield 40, 3) := by decide +kernel
theorem d_M_begins_25 : decode b_M_begins 25 = .ok (.iconst 1, 1) := by decide +kernel
theorem d_M_begins_26 : decode b_M_begins 26 = .ok (.iadd, 1) := by decide +kernel
theorem d_M_begins_27 : decode b_M_begins 27 = .ok (.putfield 40, 3) := by decide +kernel
theorem d_M_begins_30 : decode b_M_begins 30 = .ok (.return_, 1) := by decide +kernel
theorem cy_M_begins : zY y_M_begins b_M_begins 2 none 1 := ⟨kw_671, kw_3, by decide +kernel, by decide +kernel⟩
theorem d_M_act_0 : decode b_M_act 0 = .ok (.aload_n 0, 1) := by decide +kernel
theorem d_M_act_1 : decode b_M_act 1 = .ok (.iconst 0, 1) := by decide +kernel
theorem d_M_act_2 : decode b_M_act 2 = .ok (.putfield 40, 3) := by decide +kernel
theorem d_M_act_5 : decode b_M_act 5 = .ok (.aload_n 0, 1) := by decide +kernel
theorem d_M_act_6 : decode b_M_act 6 = .ok (.dup, 1) := by decide +kernel
theorem d_M_act_7 : decode b_M_act 7 = .ok (.getfield 43, 3) := by decide +kernel
theorem d_M_act_10 : decode b_M_act 10 = .ok (.iconst 1, 1) := by decide +kernel
theorem d_M_act_11 : decode b_M_act 11 = .ok (.iadd, 1) := by decide +kernel
theorem d_M_act_12 : decode b_M_act 12 = .ok (.putfield 43, 3) := by decide +kernel
theorem d_M_act_15 : decode b_M_act 15 = .ok (.return_, 1) := by decide +kernel
theorem cy_M_act : zY y_M_act b_M_act 1 none 0 := ⟨kw_654, kw_3, by decide +kernel, by decide +kernel⟩
theorem d_M_burnLamp_0 : decode b_M_burnLamp 0 = .ok (.aload_n 0, 1) := by decide +kernel
theorem d_M_burnLamp_1 : decode b_M_burnLamp 1 = .ok (.iconst 0, 1) := by decide +kernel
theorem d_M_burnLamp_2 : decode b_M_burnLamp 2 = .ok (.invokevirtual 46, 3) := by decide +kernel
theorem d_M_burnLamp_5 : decode b_M_burnLamp 5 = .ok (.aload_n 0, 1) := by decide +kernel
theorem d_M_burnLamp_6 : decode b_M_burnLamp 6 = .ok (.getfield 22, 3) := by decide +kernel
theorem d_M_burnLamp_9 : decode b_M_burnLamp 9 = .ok (.iload_n 1, 1) := by decide +kernel
theorem d_M_burnLamp_10 : decode b_M_burnLamp 10 = .ok (.dup2, 1) := by decide +kernel
theorem d_M_burnLamp_11 : decode b_M_burnLamp 11 = .ok (.iaload, 1) := by decide +kernel
theorem d_M_burnLamp_12 : decode b_M_burnLamp 12 = .ok (.iload_n 2, 1) := by decide +kernel
theorem d_M_burnLamp_13 : decode b_M_burnLamp 13 = .ok (.iadd, 1) := by decide +kernel
theorem d_M_burnLamp_14 : decode b_M_burnLamp 14 = .ok (.iastore, 1) := by decide +kernel
theorem d_M_burnLamp_15 : decode b_M_burnLamp 15 = .ok (.iload_n 2, 1) := by decide +kernel
theorem d_M_burnLamp_16 : decode b_M_burnLamp 16 = .ok (.aload_n 0, 1) := by decide +kernel
theorem d_M_burnLamp_17 : decode b_M_burnLamp 17 = .ok (.getfield 7, 3) := by decide +kernel
theorem d_M_burnLamp_20 : decode b_M_burnLamp 20 = .ok (.iconst 0, 1) := by decide +kernel
theorem d_M_burnLamp_21 : decode b_M_burnLamp 21 = .ok (.iaload, 1) := by decide +kernel
theorem d_M_burnLamp_22 : decode b_M_burnLamp 22 = .ok (.imul, 1) := by decide +kernel
theorem d_M_burnLamp_23 : decode b_M_burnLamp 23 = .ok (.iconst 1, 1) := by decide +kernel
theorem d_M_burnLamp_24 : decode b_M_burnLamp 24 = .ok (.iadd, 1) := by decide +kernel
theorem d_M_burnLamp_25 : decode b_M_burnLamp 25 = .ok (.ireturn, 1) := by decide +kernel
theorem cy_M_burnLamp : zY y_M_burnLamp b_M_burnLamp 3 (some (FieldType.int)) 2 := ⟨kw_675, kw_3, by decide +kernel, by decide +kernel⟩
theorem d_M_burnOil_0 : decode b_M_burnOil 0 = .ok (.aload_n 0, 1) := by decide +kernel
theorem d_M_burnOil_1 : decode b_M_burnOil 1 = .ok (.bipush 10, 2) := by decide +kernel
theorem d_M_burnOil_3 : decode b_M_burnOil 3 = .ok (.invokevirtual 46, 3) := by decide +kernel
theorem d_M_burnOil_6 : decode b_M_burnOil 6 = .ok (.aload_n 0, 1) := by decide +kernel
theorem d_M_burnOil_7 : decode b_M_burnOil 7 = .ok (.iload_n 1, 1) := by decide +kernel
theorem d_M_burnOil_8 : decode b_M_burnOil 8 = .ok (.iload_n 2, 1) := by decide +kernel
theorem d_M_burnOil_9 : decode b_M_burnOil 9 = .ok (.invokevirtual 50, 3) := by decide +kernel
theorem d_M_burnOil_12 : decode b_M_burnOil 12 = .ok (.istore_n 3, 1) := by decide +kernel
theorem d_M_burnOil_13 : decode b_M_burnOil 13 = .ok (.iload_n 3, 1) := by decide +kernel
theorem d_M_burnOil_14 : decode b_M_burnOil 14 = .ok (.aload_n 0, 1) := by decide +kernel
theorem d_M_burnOil_15 : decode b_M_burnOil 15 = .ok (.getfield 22, 3) := by decide +kernel
theorem d_M_burnOil_18 : decode b_M_burnOil 18 = .ok (.iload_n 1, 1) := by decide +kernel
theorem d_M_burnOil_19 : decode b_M_burnOil 19 = .ok (.iaload, 1) := by decide +kernel
theorem d_M_burnOil_20 : decode b_M_burnOil 20 = .ok (.bipush 50, 2) := by decide +kernel
theorem d_M_burnOil_22 : decode b_M_burnOil 22 = .ok (.idiv, 1) := by decide +kernel
theorem d_M_burnOil_23 : decode b_M_burnOil 23 = .ok (.iadd, 1) := by decide +kernel
theorem d_M_burnOil_24 : decode b_M_burnOil 24 = .ok (.ireturn, 1) := by decide +kernel
theorem cy_M_burnOil : zY y_M_burnOil b_M_burnOil 4 (some (FieldType.int)) 2 := ⟨kw_667, kw_3, by decide +kernel, by decide +kernel⟩
theorem d_M_burnTwin_0 : decode b_M_burnTwin 0 = .ok (.aload_n 0, 1) := by decide +kernel
theorem d_M_burnTwin_1 : decode b_M_burnTwin 1 = .ok (.bipush 30, 2) := by decide +kernel
theorem d_M_burnTwin_3 : decode b_M_burnTwin 3 = .ok (.invokevirtual 46, 3) := by decide +kernel
theorem d_M_burnTwin_6 : decode b_M_burnTwin 6 = .ok (.aload_n 0, 1) := by decide +kernel
theorem d_M_burnTwin_7 : decode b_M_burnTwin 7 = .ok (.iload_n 1, 1) := by decide +kernel
theorem d_M_burnTwin_8 : decode b_M_burnTwin 8 = .ok (.iload_n 2, 1) := by decide +kernel
theorem d_M_burnTwin_9 : decode b_M_burnTwin 9 = .ok (.invokevirtual 54, 3) := by decide +kernel
theorem d_M_burnTwin_12 : decode b_M_burnTwin 12 = .ok (.istore_n 3, 1) := by decide +kernel
theorem d_M_burnTwin_13 : decode b_M_burnTwin 13 = .ok (.iload_n 3, 1) := by decide +kernel
theorem d_M_burnTwin_14 : decode b_M_burnTwin 14 = .ok (.aload_n 0, 1) := by decide +kernel
theorem d_M_burnTwin_15 : decode b_M_burnTwin 15 = .ok (.iload_n 1, 1) := by decide +kernel
theorem d_M_burnTwin_16 : decode b_M_burnTwin 16 = .ok (.iload_n 2, 1) := by decide +kernel
theorem d_M_burnTwin_17 : decode b_M_burnTwin 17 = .ok (.invokevirtual 54, 3) := by decide +kernel
theorem d_M_burnTwin_20 : decode b_M_burnTwin 20 = .ok (.iadd, 1) := by decide +kernel
theorem d_M_burnTwin_21 : decode b_M_burnTwin 21 = .ok (.ireturn, 1) := by decide +kernel
theorem cy_M_burnTwin : zY y_M_burnTwin b_M_burnTwin 4 (some (FieldType.int)) 2 := ⟨kw_679, kw_3, by decide +kernel, by decide +kernel⟩
theorem d_M_burnSwing_0 : decode b_M_burnSwing 0 = .ok (.aload_n 0, 1) := by decide +kernel
theorem d_M_burnSwing_1 : decode b_M_burnSwing 1 = .ok (.bipush 50, 2) := by decide +kernel
theorem d_M_burnSwing_3 : decode b_M_burnSwing 3 = .ok (.invokevirtual 46, 3) := by decide +kernel
theorem d_M_burnSwing_6 : decode b_M_burnSwing 6 = .ok (.aload_n 0, 1) := by decide +kernel
theorem d_M_burnSwing_7 : decode b_M_burnSwing 7 = .ok (.iload_n 1, 1) := by decide +kernel
theorem d_M_burnSwing_8 : decode b_M_burnSwing 8 = .ok (.iload_n 2, 1) := by decide +kernel
theorem d_M_burnSwing_9 : decode b_M_burnSwing 9 = .ok (.invokevirtual 57, 3) := by decide +kernel
theorem d_M_burnSwing_12 : decode b_M_burnSwing 12 = .ok (.iload_n 2, 1) := by decide +kernel
theorem d_M_burnSwing_13 : decode b_M_burnSwing 13 = .ok (.iconst 2, 1) := by decide +kernel
theorem d_M_burnSwing_14 : decode b_M_burnSwing 14 = .ok (.idiv, 1) := by decide +kernel
theorem d_M_burnSwing_15 : decode b_M_burnSwing 15 = .ok (.iadd, 1) := by decide +kernel
theorem d_M_burnSwing_16 : decode b_M_burnSwing 16 = .ok (.ireturn, 1) := by decide +kernel
theorem cy_M_burnSwing : zY y_M_burnSwing b_M_burnSwing 3 (some (FieldType.int)) 2 := ⟨kw_683, kw_3, by decide +kernel, by decide +kernel⟩
theorem d_M_burnFlare_0 : decode b_M_burnFlare 0 = .ok (.aload_n 0, 1) := by decide +kernel
theorem d_M_burnFlare_1 : decode b_M_burnFlare 1 = .ok (.bipush 70, 2) := by decide +kernel
theorem d_M_burnFlare_3 : decode b_M_burnFlare 3 = .ok (.invokevirtual 46, 3) := by decide +kernel
theorem d_M_burnFlare_6 : decode b_M_burnFlare 6 = .ok (.aload_n 0, 1) := by decide +kernel
theorem d_M_burnFlare_7 : decode b_M_burnFlare 7 = .ok (.iload_n 1, 1) := by decide +kernel
theorem d_M_burnFlare_8 : decode b_M_burnFlare 8 = .ok (.iload_n 2, 1) := by decide +kernel
theorem d_M_burnFlare_9 : decode b_M_burnFlare 9 = .ok (.iconst 2, 1) := by decide +kernel
theorem d_M_burnFlare_10 : decode b_M_burnFlare 10 = .ok (.idiv, 1) := by decide +kernel
theorem d_M_burnFlare_11 : decode b_M_burnFlare 11 = .ok (.invokevirtual 50, 3) := by decide +kernel
theorem d_M_burnFlare_14 : decode b_M_burnFlare 14 = .ok (.ireturn, 1) := by decide +kernel
theorem cy_M_burnFlare : zY y_M_burnFlare b_M_burnFlare 3 (some (FieldType.int)) 2 := ⟨kw_691, kw_3, by decide +kernel, by decide +kernel⟩
theorem d_M_burnOuter_0 : decode b_M_burnOuter 0 = .ok (.aload_n 0, 1) := by decide +kernel
theorem d_M_burnOuter_1 : decode b_M_burnOuter 1 = .ok (.bipush 90, 2) := by decide +kernel
theorem d_M_burnOuter_3 : decode b_M_burnOuter 3 = .ok (.invokevirtual 46, 3) := by decide +kernel
theorem d_M_burnOuter_6 : decode b_M_burnOuter 6 = .ok (.aload_n 0, 1) := by decide +kernel
theorem d_M_burnOuter_7 : decode b_M_burnOuter 7 = .ok (.iload_n 1, 1) := by decide +kernel
theorem d_M_burnOuter_8 : decode b_M_burnOuter 8 = .ok (.iload_n 2, 1) := by decide +kernel
theorem d_M_burnOuter_9 : decode b_M_burnOuter 9 = .ok (.invokevirtual 60, 3) := by decide +kernel
theorem d_M_burnOuter_12 : decode b_M_burnOuter 12 = .ok (.aload_n 0, 1) := by decide +kernel
theorem d_M_burnOuter_13 : decode b_M_burnOuter 13 = .ok (.getfield 7, 3) := by decide +kernel
theorem d_M_burnOuter_16 : decode b_M_burnOuter 16 = .ok (.iconst 1, 1) := by decide +kernel
theorem d_M_burnOuter_17 : decode b_M_burnOuter 17 = .ok (.iaload, 1) := by decide +kernel
theorem d_M_burnOuter_18 : decode b_M_burnOuter 18 = .ok (.isub, 1) := by decide +kernel
theorem d_M_burnOuter_19 : decode b_M_burnOuter 19 = .ok (.istore_n 3, 1) := by decide +kernel
theorem d_M_burnOuter_20 : decode b_M_burnOuter 20 = .ok (.iload_n 3, 1) := by decide +kernel
theorem d_M_burnOuter_21 : decode b_M_burnOuter 21 = .ok (.ifCond .ge 7, 3) := by decide +kernel
theorem d_M_burnOuter_24 : decode b_M_burnOuter 24 = .ok (.iconst 0, 1) := by decide +kernel
theorem d_M_burnOuter_25 : decode b_M_burnOuter 25 = .ok (.goto 4, 3) := by decide +kernel
theorem d_M_burnOuter_28 : decode b_M_burnOuter 28 = .ok (.iload_n 3, 1) := by decide +kernel
theorem d_M_burnOuter_29 : decode b_M_burnOuter 29 = .ok (.ireturn, 1) := by decide +kernel
theorem cy_M_burnOuter : zY y_M_burnOuter b_M_burnOuter 4 (some (FieldType.int)) 2 := ⟨kw_687, kw_3, by decide +kernel, by decide +kernel⟩
theorem d_M_burn_0 : decode b_M_burn 0 = .ok (.aload_n 0, 1) := by decide +kernel
theorem d_M_burn_1 : decode b_M_burn 1 = .ok (.getfield 13, 3) := by decide +kernel
theorem d_M_burn_4 : decode b_M_burn 4 = .ok (.iload_n 1, 1) := by decide +kernel
theorem d_M_burn_5 : decode b_M_burn 5 = .ok (.iaload, 1) := by decide +kernel
theorem d_M_burn_6 : decode b_M_burn 6 = .ok (.tableswitch 85 1 9 #[50, 50, 57, 57, 64, 71, 85, 85, 78], 50) := by decide +kernel
theorem d_M_burn_56 : decode b_M_burn 56 = .ok (.aload_n 0, 1) := by decide +kernel
theorem d_M_burn_57 : decode b_M_burn 57 = .ok (.iload_n 1, 1) := by decide +kernel
theorem d_M_burn_58 : decode b_M_burn 58 = .ok (.iload_n 2, 1) := by decide +kernel
theorem d_M_burn_59 : decode b_M_burn 59 = .ok (.invokevirtual 54, 3) := by decide +kernel
theorem d_M_burn_62 : decode b_M_burn 62 = .ok (.ireturn, 1) := by decide +kernel
theorem d_M_burn_63 : decode b_M_burn 63 = .ok (.aload_n 0, 1) := by decide +kernel
theorem d_M_burn_64 : decode b_M_burn 64 = .ok (.iload_n 1, 1) := by decide +kernel
theorem d_M_burn_65 : decode b_M_burn 65 = .ok (.iload_n 2, 1) := by decide +kernel
theorem d_M_burn_66 : decode b_M_burn 66 = .ok (.invokevirtual 57, 3) := by decide +kernel
theorem d_M_burn_69 : decode b_M_burn 69 = .ok (.ireturn, 1) := by decide +kernel
theorem d_M_burn_70 : decode b_M_burn 70 = .ok (.aload_n 0, 1) := by decide +kernel
theorem d_M_burn_71 : decode b_M_burn 71 = .ok (.iload_n 1, 1) := by decide +kernel
theorem d_M_burn_72 : decode b_M_burn 72 = .ok (.iload_n 2, 1) := by decide +kernel
theorem d_M_burn_73 : decode b_M_burn 73 = .ok (.invokevirtual 63, 3) := by decide +kernel
theorem d_M_burn_76 : decode b_M_burn 76 = .ok (.ireturn, 1) := by decide +kernel
theorem d_M_burn_77 : decode b_M_burn 77 = .ok (.aload_n 0, 1) := by decide +kernel
theorem d_M_burn_78 : decode b_M_burn 78 = .ok (.iload_n 1, 1) := by decide +kernel
theorem d_M_burn_79 : decode b_M_burn 79 = .ok (.iload_n 2, 1) := by decide +kernel
theorem d_M_burn_80 : decode b_M_burn 80 = .ok (.invokevirtual 50, 3) := by decide +kernel
theorem d_M_burn_83 : decode b_M_burn 83 = .ok (.ireturn, 1) := by decide +kernel
theorem d_M_burn_84 : decode b_M_burn 84 = .ok (.aload_n 0, 1) := by decide +kernel
theorem d_M_burn_85 : decode b_M_burn 85 = .ok (.iload_n 1, 1) := by decide +kernel
theorem d_M_burn_86 : decode b_M_burn 86 = .ok (.iload_n 2, 1) := by decide +kernel
theorem d_M_burn_87 : decode b_M_burn 87 = .ok (.invokevirtual 66, 3) := by decide +kernel
theorem d_M_burn_90 : decode b_M_burn 90 = .ok (.ireturn, 1) := by decide +kernel
theorem d_M_burn_91 : decode b_M_burn 91 = .ok (.aload_n 0, 1) := by decide +kernel
theorem d_M_burn_92 : decode b_M_burn 92 = .ok (.iload_n 1, 1) := by decide +kernel
theorem d_M_burn_93 : decode b_M_burn 93 = .ok (.iload_n 2, 1) := by decide +kernel
theorem d_M_burn_94 : decode b_M_burn 94 = .ok (.invokevirtual 60, 3) := by decide +kernel
theorem d_M_burn_97 : decode b_M_burn 97 = .ok (.ireturn, 1) := by decide +kernel
theorem cy_M_burn : zY y_M_burn b_M_burn 3 (some (FieldType.int)) 2 := ⟨kw_663, kw_3, by decide +kernel, by decide +kernel⟩
theorem d_M_reachLamp_0 : decode b_M_reachLamp 0 = .ok (.aload_n 0, 1) := by decide +kernel
theorem d_M_reachLamp_1 : decode b_M_reachLamp 1 = .ok (.iconst 1, 1) := by decide +kernel
theorem d_M_reachLamp_2 : decode b_M_reachLamp 2 = .ok (.invokevirtual 46, 3) := by decide +kernel
theorem d_M_reachLamp_5 : decode b_M_reachLamp 5 = .ok (.aload_n 0, 1) := by decide +kernel
theorem d_M_reachLamp_6 : decode b_M_reachLamp 6 = .ok (.getfield 16, 3) := by decide +kernel
theorem d_M_reachLamp_9 : decode b_M_reachLamp 9 = .ok (.iload_n 1, 1) := by decide +kernel
theorem d_M_reachLamp_10 : decode b_M_reachLamp 10 = .ok (.iaload, 1) := by decide +kernel
theorem d_M_reachLamp_11 : decode b_M_reachLamp 11 = .ok (.bipush 10, 2) := by decide +kernel
theorem d_M_reachLamp_13 : decode b_M_reachLamp 13 = .ok (.idiv, 1) := by decide +kernel
theorem d_M_reachLamp_14 : decode b_M_reachLamp 14 = .ok (.bipush 30, 2) := by decide +kernel
theorem d_M_reachLamp_16 : decode b_M_reachLamp 16 = .ok (.iadd, 1) := by decide +kernel
theorem d_M_reachLamp_17 : decode b_M_reachLamp 17 = .ok (.iconst 3, 1) := by decide +kernel
theorem d_M_reachLamp_18 : decode b_M_reachLamp 18 = .ok (.iload_n 2, 1) := by decide +kernel
theorem d_M_reachLamp_19 : decode b_M_reachLamp 19 = .ok (.imul, 1) := by decide +kernel
theorem d_M_reachLamp_20 : decode b_M_reachLamp 20 = .ok (.isub, 1) := by decide +kernel
theorem d_M_reachLamp_21 : decode b_M_reachLamp 21 = .ok (.ireturn, 1) := by decide +kernel
theorem cy_M_reachLamp : zY y_M_reachLamp b_M_reachLamp 3 (some (FieldType.int)) 2 := ⟨kw_699, kw_3, by decide +kernel, by decide +kernel⟩
theorem d_M_reachRound_0 : decode b_M_reachRound 0 = .ok (.aload_n 0, 1) := by decide +kernel
theorem d_M_reachRound_1 : decode b_M_reachRound 1 = .ok (.bipush 21, 2) := by decide +kernel
theorem d_M_reachRound_3 : decode b_M_reachRound 3 = .ok (.invokevirtual 46, 3) := by decide +kernel
theorem d_M_reachRound_6 : decode b_M_reachRound 6 = .ok (.aload_n 0, 1) := by decide +kernel
theorem d_M_reachRound_7 : decode b_M_reachRound 7 = .ok (.iload_n 1, 1) := by decide +kernel
theorem d_M_reachRound_8 : decode b_M_reachRound 8 = .ok (.iload_n 2, 1) := by decide +kernel
theorem d_M_reachRound_9 : decode b_M_reachRound 9 = .ok (.invokevirtual 69, 3) := by decide +kernel
theorem d_M_reachRound_12 : decode b_M_reachRound 12 = .ok (.aload_n 0, 1) := by decide +kernel
theorem d_M_reachRound_13 : decode b_M_reachRound 13 = .ok (.getfield 7, 3) := by decide +kernel
theorem d_M_reachRound_16 : decode b_M_reachRound 16 = .ok (.iconst 2, 1) := by decide +kernel
theorem d_M_reachRound_17 : decode b_M_reachRound 17 = .ok (.iaload, 1) := by decide +kernel
theorem d_M_reachRound_18 : decode b_M_reachRound 18 = .ok (.iadd, 1) := by decide +kernel
theorem d_M_reachRound_19 : decode b_M_reachRound 19 = .ok (.ireturn, 1) := by decide +kernel
theorem cy_M_reachRound : zY y_M_reachRound b_M_reachRound 3 (some (FieldType.int)) 2 := ⟨kw_703, kw_3, by decide +kernel, by decide +kernel⟩
theorem d_M_reachTwin_0 : decode b_M_reachTwin 0 = .ok (.aload_n 0, 1) := by decide +kernel
theorem d_M_reachTwin_1 : decode b_M_reachTwin 1 = .ok (.bipush 31, 2) := by decide +kernel
theorem d_M_reachTwin_3 : decode b_M_reachTwin 3 = .ok (.invokevirtual 46, 3) := by decide +kernel
theorem d_M_reachTwin_6 : decode b_M_reachTwin 6 = .ok (.aload_n 0, 1) := by decide +kernel
theorem d_M_reachTwin_7 : decode b_M_reachTwin 7 = .ok (.iload_n 1, 1) := by decide +kernel
theorem d_M_reachTwin_8 : decode b_M_reachTwin 8 = .ok (.iload_n 2, 1) := by decide +kernel
theorem d_M_reachTwin_9 : decode b_M_reachTwin 9 = .ok (.invokevirtual 72, 3) := by decide +kernel
theorem d_M_reachTwin_12 : decode b_M_reachTwin 12 = .ok (.istore_n 3, 1) := by decide +kernel
theorem d_M_reachTwin_13 : decode b_M_reachTwin 13 = .ok (.iload_n 3, 1) := by decide +kernel
theorem d_M_reachTwin_14 : decode b_M_reachTwin 14 = .ok (.aload_n 0, 1) := by decide +kernel
theorem d_M_reachTwin_15 : decode b_M_reachTwin 15 = .ok (.iload_n 1, 1) := by decide +kernel
theorem d_M_reachTwin_16 : decode b_M_reachTwin 16 = .ok (.iload_n 2, 1) := by decide +kernel
theorem d_M_reachTwin_17 : decode b_M_reachTwin 17 = .ok (.iconst 1, 1) := by decide +kernel
theorem d_M_reachTwin_18 : decode b_M_reachTwin 18 = .ok (.iadd, 1) := by decide +kernel
theorem d_M_reachTwin_19 : decode b_M_reachTwin 19 = .ok (.invokevirtual 72, 3) := by decide +kernel
theorem d_M_reachTwin_22 : decode b_M_reachTwin 22 = .ok (.iconst 2, 1) := by decide +kernel
theorem d_M_reachTwin_23 : decode b_M_reachTwin 23 = .ok (.idiv, 1) := by decide +kernel
theorem d_M_reachTwin_24 : decode b_M_reachTwin 24 = .ok (.iadd, 1) := by decide +kernel
theorem d_M_reachTwin_25 : decode b_M_reachTwin 25 = .ok (.ireturn, 1) := by decide +kernel
theorem cy_M_reachTwin : zY y_M_reachTwin b_M_reachTwin 4 (some (FieldType.int)) 2 := ⟨kw_707, kw_3, by decide +kernel, by decide +kernel⟩
theorem d_M_reachDrum_0 : decode b_M_reachDrum 0 = .ok (.aload_n 0, 1) := by decide +kernel
theorem d_M_reachDrum_1 : decode b_M_reachDrum 1 = .ok (.bipush 41, 2) := by decide +kernel
theorem d_M_reachDrum_3 : decode b_M_reachDrum 3 = .ok (.invokevirtual 46, 3) := by decide +kernel
theorem d_M_reachDrum_6 : decode b_M_reachDrum 6 = .ok (.aload_n 0, 1) := by decide +kernel
theorem d_M_reachDrum_7 : decode b_M_reachDrum 7 = .ok (.iload_n 1, 1) := by decide +kernel
theorem d_M_reachDrum_8 : decode b_M_reachDrum 8 = .ok (.iload_n 2, 1) := by decide +kernel
theorem d_M_reachDrum_9 : decode b_M_reachDrum 9 = .ok (.invokevirtual 75, 3) := by decide +kernel
theorem d_M_reachDrum_12 : decode b_M_reachDrum 12 = .ok (.istore_n 3, 1) := by decide +kernel
theorem d_M_reachDrum_13 : decode b_M_reachDrum 13 = .ok (.iload_n 3, 1) := by decide +kernel
theorem d_M_reachDrum_14 : decode b_M_reachDrum 14 = .ok (.bipush 20, 2) := by decide +kernel
theorem d_M_reachDrum_16 : decode b_M_reachDrum 16 = .ok (.if_icmp .ge 8, 3) := by decide +kernel
theorem d_M_reachDrum_19 : decode b_M_reachDrum 19 = .ok (.bipush 20, 2) := by decide +kernel
theorem d_M_reachDrum_21 : decode b_M_reachDrum 21 = .ok (.goto 4, 3) := by decide +kernel
theorem d_M_reachDrum_24 : decode b_M_reachDrum 24 = .ok (.iload_n 3, 1) := by decide +kernel
theorem d_M_reachDrum_25 : decode b_M_reachDrum 25 = .ok (.ireturn, 1) := by decide +kernel
theorem cy_M_reachDrum : zY y_M_reachDrum b_M_reachDrum 4 (some (FieldType.int)) 2 := ⟨kw_711, kw_3, by decide +kernel, by decide +kernel⟩
theorem d_M_reachGas_0 : decode b_M_reachGas 0 = .ok (.aload_n 0, 1) := by decide +kernel
theorem d_M_reachGas_1 : decode b_M_reachGas 1 = .ok (.bipush 61, 2) := by decide +kernel
theorem d_M_reachGas_3 : decode b_M_reachGas 3 = .ok (.invokevirtual 46, 3) := by decide +kernel
theorem d_M_reachGas_6 : decode b_M_reachGas 6 = .ok (.aload_n 0, 1) := by decide +kernel
theorem d_M_reachGas_7 : decode b_M_reachGas 7 = .ok (.iload_n 1, 1) := by decide +kernel
theorem d_M_reachGas_8 : decode b_M_reachGas 8 = .ok (.iload_n 2, 1) := by decide +kernel
theorem d_M_reachGas_9 : decode b_M_reachGas 9 = .ok (.invokevirtual 69, 3) := by decide +kernel
theorem d_M_reachGas_12 : decode b_M_reachGas 12 = .ok (.aload_n 0, 1) := by decide +kernel
theorem d_M_reachGas_13 : decode b_M_reachGas 13 = .ok (.getfield 22, 3) := by decide +kernel
theorem d_M_reachGas_16 : decode b_M_reachGas 16 = .ok (.iload_n 1, 1) := by decide +kernel
theorem d_M_reachGas_17 : decode b_M_reachGas 17 = .ok (.iaload, 1) := by decide +kernel
theorem d_M_reachGas_18 : decode b_M_reachGas 18 = .ok (.bipush 10, 2) := by decide +kernel
theorem d_M_reachGas_20 : decode b_M_reachGas 20 = .ok (.idiv, 1) := by decide +kernel
theorem d_M_reachGas_21 : decode b_M_reachGas 21 = .ok (.isub, 1) := by decide +kernel
theorem d_M_reachGas_22 : decode b_M_reachGas 22 = .ok (.ireturn, 1) := by decide +kernel
theorem cy_M_reachGas : zY y_M_reachGas b_M_reachGas 3 (some (FieldType.int)) 2 := ⟨kw_715, kw_3, by decide +kernel, by decide +kernel⟩
theorem d_M_reachBuoy_0 : decode b_M_reachBuoy 0 = .ok (.aload_n 0, 1) := by decide +kernel
theorem d_M_reachBuoy_1 : decode b_M_reachBuoy 1 = .ok (.bipush 81, 2) := by decide +kernel
theorem d_M_reachBuoy_3 : decode b_M_reachBuoy 3 = .ok (.invokevirtual 46, 3) := by decide +kernel
theorem d_M_reachBuoy_6 : decode b_M_reachBuoy 6 = .ok (.aload_n 0, 1) := by decide +kernel
theorem d_M_reachBuoy_7 : decode b_M_reachBuoy 7 = .ok (.iload_n 1, 1) := by decide +kernel
theorem d_M_reachBuoy_8 : decode b_M_reachBuoy 8 = .ok (.iload_n 2, 1) := by decide +kernel
theorem d_M_reachBuoy_9 : decode b_M_reachBuoy 9 = .ok (.invokevirtual 78, 3) := by decide +kernel
theorem d_M_reachBuoy_12 : decode b_M_reachBuoy 12 = .ok (.iconst 2, 1) := by decide +kernel
theorem d_M_reachBuoy_13 : decode b_M_reachBuoy 13 = .ok (.idiv, 1) := by decide +kernel
theorem d_M_reachBuoy_14 : decode b_M_reachBuoy 14 = .ok (.ireturn, 1) := by decide +kernel
theorem cy_M_reachBuoy : zY y_M_reachBuoy b_M_reachBuoy 3 (some (FieldType.int)) 2 := ⟨kw_719, kw_3, by decide +kernel, by decide +kernel⟩
theorem d_M_reach_0 : decode b_M_reach 0 = .ok (.aload_n 0, 1) := by decide +kernel
theorem d_M_reach_1 : decode b_M_reach 1 = .ok (.getfield 13, 3) := by decide +kernel
theorem d_M_reach_4 : decode b_M_reach 4 = .ok (.iload_n 1, 1) := by decide +kernel
theorem d_M_reach_5 : decode b_M_reach 5 = .ok (.iaload, 1) := by decide +kernel
theorem d_M_reach_6 : decode b_M_reach 6 = .ok (.tableswitch 77 1 7 #[42, 49, 56, 63, 63, 70, 70], 42) := by decide +kernel
theorem d_M_reach_48 : decode b_M_reach 48 = .ok (.aload_n 0, 1) := by decide +kernel
theorem d_M_reach_49 : decode b_M_reach 49 = .ok (.iload_n 1, 1) := by decide +kernel
theorem d_M_reach_50 : decode b_M_reach 50 = .ok (.iload_n 2, 1) := by decide +kernel
theorem d_M_reach_51 : decode b_M_reach 51 = .ok (.invokevirtual 69, 3) := by decide +kernel
theorem d_M_reach_54 : decode b_M_reach 54 = .ok (.ireturn, 1) := by decide +kernel
theorem d_M_reach_55 : decode b_M_reach 55 = .ok (.aload_n 0, 1) := by decide +kernel
theorem d_M_reach_56 : decode b_M_reach 56 = .ok (.iload_n 1, 1) := by decide +kernel
theorem d_M_reach_57 : decode b_M_reach 57 = .ok (.iload_n 2, 1) := by decide +kernel
theorem d_M_reach_58 : decode b_M_reach 58 = .ok (.invokevirtual 72, 3) := by decide +kernel
theorem d_M_reach_61 : decode b_M_reach 61 = .ok (.ireturn, 1) := by decide +kernel
theorem d_M_reach_62 : decode b_M_reach 62 = .ok (.aload_n 0, 1) := by decide +kernel
theorem d_M_reach_63 : decode b_M_reach 63 = .ok (.iload_n 1, 1) := by decide +kernel
theorem d_M_reach_64 : decode b_M_reach 64 = .ok (.iload_n 2, 1) := by decide +kernel
theorem d_M_reach_65 : decode b_M_reach 65 = .ok (.invokevirtual 75, 3) := by decide +kernel
theorem d_M_reach_68 : decode b_M_reach 68 = .ok (.ireturn, 1) := by decide +kernel
theorem d_M_reach_69 : decode b_M_reach 69 = .ok (.aload_n 0, 1) := by decide +kernel
theorem d_M_reach_70 : decode b_M_reach 70 = .ok (.iload_n 1, 1) := by decide +kernel
theorem d_M_reach_71 : decode b_M_reach 71 = .ok (.iload_n 2, 1) := by decide +kernel
theorem d_M_reach_72 : decode b_M_reach 72 = .ok (.invokevirtual 81, 3) := by decide +kernel
theorem d_M_reach_75 : decode b_M_reach 75 = .ok (.ireturn, 1) := by decide +kernel
theorem d_M_reach_76 : decode b_M_reach 76 = .ok (.aload_n 0, 1) := by decide +kernel
theorem d_M_reach_77 : decode b_M_reach 77 = .ok (.iload_n 1, 1) := by decide +kernel
theorem d_M_reach_78 : decode b_M_reach 78 = .ok (.iload_n 2, 1) := by decide +kernel
theorem d_M_reach_79 : decode b_M_reach 79 = .ok (.invokevirtual 78, 3) := by decide +kernel
theorem d_M_reach_82 : decode b_M_reach 82 = .ok (.ireturn, 1) := by decide +kernel
theorem d_M_reach_83 : decode b_M_reach 83 = .ok (.aload_n 0, 1) := by decide +kernel
theorem d_M_reach_84 : decode b_M_reach 84 = .ok (.iload_n 1, 1) := by decide +kernel
theorem d_M_reach_85 : decode b_M_reach 85 = .ok (.iload_n 2, 1) := by decide +kernel
theorem d_M_reach_86 : decode b_M_reach 86 = .ok (.invokevirtual 84, 3) := by decide +kernel
theorem d_M_reach_89 : decode b_M_reach 89 = .ok (.ireturn, 1) := by decide +kernel
theorem cy_M_reach : zY y_M_reach b_M_reach 3 (some (FieldType.int)) 2 := ⟨kw_695, kw_3, by decide +kernel, by decide +kernel⟩
theorem d_M_flashLamp_0 : decode b_M_flashLamp 0 = .ok (.aload_n 0, 1) := by decide +kernel
theorem d_M_flashLamp_1 : decode b_M_flashLamp 1 = .ok (.iconst 2, 1) := by decide +kernel
theorem d_M_flashLamp_2 : decode b_M_flashLamp 2 = .ok (.invokevirtual 46, 3) := by decide +kernel
theorem d_M_flashLamp_5 : decode b_M_flashLamp 5 = .ok (.bipush 100, 2) := by decide +kernel
theorem d_M_flashLamp_7 : decode b_M_flashLamp 7 = .ok (.ireturn, 1) := by decide +kernel
theorem cy_M_flashLamp : zY y_M_flashLamp b_M_flashLamp 1 (some (FieldType.int)) 0 := ⟨kw_731, kw_3, by decide +kernel, by decide +kernel⟩
theorem d_M_flashTwin_0 : decode b_M_flashTwin 0 = .ok (.aload_n 0, 1) := by decide +kernel
theorem d_M_flashTwin_1 : decode b_M_flashTwin 1 = .ok (.bipush 32, 2) := by decide +kernel
theorem d_M_flashTwin_3 : decode b_M_flashTwin 3 = .ok (.invokevirtual 46, 3) := by decide +kernel
theorem d_M_flashTwin_6 : decode b_M_flashTwin 6 = .ok (.iload_n 1, 1) := by decide +kernel
theorem d_M_flashTwin_7 : decode b_M_flashTwin 7 = .ok (.iconst 3, 1) := by decide +kernel
theorem d_M_flashTwin_8 : decode b_M_flashTwin 8 = .ok (.iand, 1) := by decide +kernel
theorem d_M_flashTwin_9 : decode b_M_flashTwin 9 = .ok (.ifCond .ne 7, 3) := by decide +kernel
theorem d_M_flashTwin_12 : decode b_M_flashTwin 12 = .ok (.iconst 0, 1) := by decide +kernel
theorem d_M_flashTwin_13 : decode b_M_flashTwin 13 = .ok (.goto 7, 3) := by decide +kernel
theorem d_M_flashTwin_16 : decode b_M_flashTwin 16 = .ok (.aload_n 0, 1) := by decide +kernel
theorem d_M_flashTwin_17 : decode b_M_flashTwin 17 = .ok (.invokevirtual 87, 3) := by decide +kernel
theorem d_M_flashTwin_20 : decode b_M_flashTwin 20 = .ok (.ireturn, 1) := by decide +kernel
theorem cy_M_flashTwin : zY y_M_flashTwin b_M_flashTwin 2 (some (FieldType.int)) 1 := ⟨kw_727, kw_3, by decide +kernel, by decide +kernel⟩
theorem d_M_flashSwing_0 : decode b_M_flashSwing 0 = .ok (.aload_n 0, 1) := by decide +kernel
theorem d_M_flashSwing_1 : decode b_M_flashSwing 1 = .ok (.bipush 52, 2) := by decide +kernel
theorem d_M_flashSwing_3 : decode b_M_flashSwing 3 = .ok (.invokevirtual 46, 3) := by decide +kernel
theorem d_M_flashSwing_6 : decode b_M_flashSwing 6 = .ok (.aload_n 0, 1) := by decide +kernel
theorem d_M_flashSwing_7 : decode b_M_flashSwing 7 = .ok (.iload_n 1, 1) := by decide +kernel
theorem d_M_flashSwing_8 : decode b_M_flashSwing 8 = .ok (.iconst 3, 1) := by decide +kernel
theorem d_M_flashSwing_9 : decode b_M_flashSwing 9 = .ok (.idiv, 1) := by decide +kernel
theorem d_M_flashSwing_10 : decode b_M_flashSwing 10 = .ok (.invokevirtual 91, 3) := by decide +kernel
theorem d_M_flashSwing_13 : decode b_M_flashSwing 13 = .ok (.ireturn, 1) := by decide +kernel
theorem cy_M_flashSwing : zY y_M_flashSwing b_M_flashSwing 2 (some (FieldType.int)) 1 := ⟨kw_735, kw_3, by decide +kernel, by decide +kernel⟩
theorem d_M_flashFlare_0 : decode b_M_flashFlare 0 = .ok (.aload_n 0, 1) := by decide +kernel
theorem d_M_flashFlare_1 : decode b_M_flashFlare 1 = .ok (.bipush 72, 2) := by decide +kernel
theorem d_M_flashFlare_3 : decode b_M_flashFlare 3 = .ok (.invokevirtual 46, 3) := by decide +kernel
theorem d_M_flashFlare_6 : decode b_M_flashFlare 6 = .ok (.iload_n 1, 1) := by decide +kernel
theorem d_M_flashFlare_7 : decode b_M_flashFlare 7 = .ok (.iconst 1, 1) := by decide +kernel
theorem d_M_flashFlare_8 : decode b_M_flashFlare 8 = .ok (.iand, 1) := by decide +kernel
theorem d_M_flashFlare_9 : decode b_M_flashFlare 9 = .ok (.ifCond .ne 10, 3) := by decide +kernel
theorem d_M_flashFlare_12 : decode b_M_flashFlare 12 = .ok (.aload_n 0, 1) := by decide +kernel
theorem d_M_flashFlare_13 : decode b_M_flashFlare 13 = .ok (.invokevirtual 87, 3) := by decide +kernel
theorem d_M_flashFlare_16 : decode b_M_flashFlare 16 = .ok (.goto 4, 3) := by decide +kernel
theorem d_M_flashFlare_19 : decode b_M_flashFlare 19 = .ok (.iconst 0, 1) := by decide +kernel
theorem d_M_flashFlare_20 : decode b_M_flashFlare 20 = .ok (.ireturn, 1) := by decide +kernel
theorem cy_M_flashFlare : zY y_M_flashFlare b_M_flashFlare 2 (some (FieldType.int)) 1 := ⟨kw_739, kw_3, by decide +kernel, by decide +kernel⟩
theorem d_M_flashOuter_0 : decode b_M_flashOuter 0 = .ok (.aload_n 0, 1) := by decide +kernel
theorem d_M_flashOuter_1 : decode b_M_flashOuter 1 = .ok (.bipush 92, 2) := by decide +kernel
theorem d_M_flashOuter_3 : decode b_M_flashOuter 3 = .ok (.invokevirtual 46, 3) := by decide +kernel
theorem d_M_flashOuter_6 : decode b_M_flashOuter 6 = .ok (.aload_n 0, 1) := by decide +kernel
theorem d_M_flashOuter_7 : decode b_M_flashOuter 7 = .ok (.iload_n 1, 1) := by decide +kernel
theorem d_M_flashOuter_8 : decode b_M_flashOuter 8 = .ok (.invokevirtual 95, 3) := by decide +kernel
theorem d_M_flashOuter_11 : decode b_M_flashOuter 11 = .ok (.istore_n 2, 1) := by decide +kernel
theorem d_M_flashOuter_12 : decode b_M_flashOuter 12 = .ok (.iload_n 2, 1) := by decide +kernel
theorem d_M_flashOuter_13 : decode b_M_flashOuter 13 = .ok (.aload_n 0, 1) := by decide +kernel
theorem d_M_flashOuter_14 : decode b_M_flashOuter 14 = .ok (.iload_n 1, 1) := by decide +kernel
theorem d_M_flashOuter_15 : decode b_M_flashOuter 15 = .ok (.iconst 1, 1) := by decide +kernel
theorem d_M_flashOuter_16 : decode b_M_flashOuter 16 = .ok (.iadd, 1) := by decide +kernel
theorem d_M_flashOuter_17 : decode b_M_flashOuter 17 = .ok (.invokevirtual 95, 3) := by decide +kernel
theorem d_M_flashOuter_20 : decode b_M_flashOuter 20 = .ok (.iadd, 1) := by decide +kernel
theorem d_M_flashOuter_21 : decode b_M_flashOuter 21 = .ok (.ireturn, 1) := by decide +kernel
theorem cy_M_flashOuter : zY y_M_flashOuter b_M_flashOuter 3 (some (FieldType.int)) 1 := ⟨kw_743, kw_3, by decide +kernel, by decide +kernel⟩
theorem d_M_flash_0 : decode b_M_flash 0 = .ok (.aload_n 0, 1) := by decide +kernel
theorem d_M_flash_1 : decode b_M_flash 1 = .ok (.getfield 13, 3) := by decide +kernel
theorem d_M_flash_4 : decode b_M_flash 4 = .ok (.iload_n 1, 1) := by decide +kernel
theorem d_M_flash_5 : decode b_M_flash 5 = .ok (.iaload, 1) := by decide +kernel
theorem d_M_flash_6 : decode b_M_flash 6 = .ok (.tableswitch 66 3 9 #[42, 42, 48, 66, 54, 54, 60], 42) := by decide +kernel
theorem d_M_flash_48 : decode b_M_flash 48 = .ok (.aload_n 0, 1) := by decide +kernel
theorem d_M_flash_49 : decode b_M_flash 49 = .ok (.iload_n 2, 1) := by decide +kernel
theorem d_M_flash_50 : decode b_M_flash 50 = .ok (.invokevirtual 91, 3) := by decide +kernel
theorem d_M_flash_53 : decode b_M_flash 53 = .ok (.ireturn, 1) := by decide +kernel
theorem d_M_flash_54 : decode b_M_flash 54 = .ok (.aload_n 0, 1) := by decide +kernel
theorem d_M_flash_55 : decode b_M_flash 55 = .ok (.iload_n 2, 1) := by decide +kernel
theorem d_M_flash_56 : decode b_M_flash 56 = .ok (.invokevirtual 98, 3) := by decide +kernel
theorem d_M_flash_59 : decode b_M_flash 59 = .ok (.ireturn, 1) := by decide +kernel
theorem d_M_flash_60 : decode b_M_flash 60 = .ok (.aload_n 0, 1) := by decide +kernel
theorem d_M_flash_61 : decode b_M_flash 61 = .ok (.iload_n 2, 1) := by decide +kernel
theorem d_M_flash_62 : decode b_M_flash 62 = .ok (.invokevirtual 95, 3) := by decide +kernel
theorem d_M_flash_65 : decode b_M_flash 65 = .ok (.ireturn, 1) := by decide +kernel
theorem d_M_flash_66 : decode b_M_flash 66 = .ok (.aload_n 0, 1) := by decide +kernel
theorem d_M_flash_67 : decode b_M_flash 67 = .ok (.iload_n 2, 1) := by decide +kernel
theorem d_M_flash_68 : decode b_M_flash 68 = .ok (.invokevirtual 101, 3) := by decide +kernel
theorem d_M_flash_71 : decode b_M_flash 71 = .ok (.ireturn, 1) := by decide +kernel
theorem d_M_flash_72 : decode b_M_flash 72 = .ok (.aload_n 0, 1) := by decide +kernel
theorem d_M_flash_73 : decode b_M_flash 73 = .ok (.invokevirtual 87, 3) := by decide +kernel
theorem d_M_flash_76 : decode b_M_flash 76 = .ok (.ireturn, 1) := by decide +kernel
theorem cy_M_flash : zY y_M_flash b_M_flash 3 (some (FieldType.int)) 2 := ⟨kw_723, kw_3, by decide +kernel, by decide +kernel⟩
theorem d_M_tendLamp_0 : decode b_M_tendLamp 0 = .ok (.aload_n 0, 1) := by decide +kernel
theorem d_M_tendLamp_1 : decode b_M_tendLamp 1 = .ok (.iconst 3, 1) := by decide +kernel
theorem d_M_tendLamp_2 : decode b_M_tendLamp 2 = .ok (.invokevirtual 46, 3) := by decide +kernel
theorem d_M_tendLamp_5 : decode b_M_tendLamp 5 = .ok (.aload_n 0, 1) := by decide +kernel
theorem d_M_tendLamp_6 : decode b_M_tendLamp 6 = .ok (.getfield 22, 3) := by decide +kernel
theorem d_M_tendLamp_9 : decode b_M_tendLamp 9 = .ok (.iload_n 1, 1) := by decide +kernel
theorem d_M_tendLamp_10 : decode b_M_tendLamp 10 = .ok (.iaload, 1) := by decide +kernel
theorem d_M_tendLamp_11 : decode b_M_tendLamp 11 = .ok (.iload_n 2, 1) := by decide +kernel
theorem d_M_tendLamp_12 : decode b_M_tendLamp 12 = .ok (.isub, 1) := by decide +kernel
theorem d_M_tendLamp_13 : decode b_M_tendLamp 13 = .ok (.istore_n 3, 1) := by decide +kernel
theorem d_M_tendLamp_14 : decode b_M_tendLamp 14 = .ok (.aload_n 0, 1) := by decide +kernel
theorem d_M_tendLamp_15 : decode b_M_tendLamp 15 = .ok (.getfield 22, 3) := by decide +kernel
theorem d_M_tendLamp_18 : decode b_M_tendLamp 18 = .ok (.iload_n 1, 1) := by decide +kernel
theorem d_M_tendLamp_19 : decode b_M_tendLamp 19 = .ok (.iload_n 3, 1) := by decide +kernel
theorem d_M_tendLamp_20 : decode b_M_tendLamp 20 = .ok (.ifCond .ge 7, 3) := by decide +kernel
theorem d_M_tendLamp_23 : decode b_M_tendLamp 23 = .ok (.iconst 0, 1) := by decide +kernel
theorem d_M_tendLamp_24 : decode b_M_tendLamp 24 = .ok (.goto 4, 3) := by decide +kernel
theorem d_M_tendLamp_27 : decode b_M_tendLamp 27 = .ok (.iload_n 3, 1) := by decide +kernel
theorem d_M_tendLamp_28 : decode b_M_tendLamp 28 = .ok (.iastore, 1) := by decide +kernel
theorem d_M_tendLamp_29 : decode b_M_tendLamp 29 = .ok (.aload_n 0, 1) := by decide +kernel
theorem d_M_tendLamp_30 : decode b_M_tendLamp 30 = .ok (.getfield 22, 3) := by decide +kernel
theorem d_M_tendLamp_33 : decode b_M_tendLamp 33 = .ok (.iload_n 1, 1) := by decide +kernel
theorem d_M_tendLamp_34 : decode b_M_tendLamp 34 = .ok (.iaload, 1) := by decide +kernel
theorem d_M_tendLamp_35 : decode b_M_tendLamp 35 = .ok (.ireturn, 1) := by decide +kernel
theorem cy_M_tendLamp : zY y_M_tendLamp b_M_tendLamp 4 (some (FieldType.int)) 2 := ⟨kw_755, kw_3, by decide +kernel, by decide +kernel⟩
theorem d_M_tendRound_0 : decode b_M_tendRound 0 = .ok (.aload_n 0, 1) := by decide +kernel
theorem d_M_tendRound_1 : decode b_M_tendRound 1 = .ok (.bipush 23, 2) := by decide +kernel
theorem d_M_tendRound_3 : decode b_M_tendRound 3 = .ok (.invokevirtual 46, 3) := by decide +kernel
theorem d_M_tendRound_6 : decode b_M_tendRound 6 = .ok (.aload_n 0, 1) := by decide +kernel
theorem d_M_tendRound_7 : decode b_M_tendRound 7 = .ok (.iload_n 1, 1) := by decide +kernel
theorem d_M_tendRound_8 : decode b_M_tendRound 8 = .ok (.iload_n 2, 1) := by decide +kernel
theorem d_M_tendRound_9 : decode b_M_tendRound 9 = .ok (.invokevirtual 104, 3) := by decide +kernel
theorem d_M_tendRound_12 : decode b_M_tendRound 12 = .ok (.istore_n 3, 1) := by decide +kernel
theorem d_M_tendRound_13 : decode b_M_tendRound 13 = .ok (.aload_n 0, 1) := by decide +kernel
theorem d_M_tendRound_14 : decode b_M_tendRound 14 = .ok (.iload_n 1, 1) := by decide +kernel
theorem d_M_tendRound_15 : decode b_M_tendRound 15 = .ok (.iload_n 2, 1) := by decide +kernel
theorem d_M_tendRound_16 : decode b_M_tendRound 16 = .ok (.iconst 2, 1) := by decide +kernel
theorem d_M_tendRound_17 : decode b_M_tendRound 17 = .ok (.idiv, 1) := by decide +kernel
theorem d_M_tendRound_18 : decode b_M_tendRound 18 = .ok (.invokevirtual 104, 3) := by decide +kernel
theorem d_M_tendRound_21 : decode b_M_tendRound 21 = .ok (.ireturn, 1) := by decide +kernel
theorem cy_M_tendRound : zY y_M_tendRound b_M_tendRound 4 (some (FieldType.int)) 2 := ⟨kw_751, kw_3, by decide +kernel, by decide +kernel⟩
theorem d_M_tendDrum_0 : decode b_M_tendDrum 0 = .ok (.aload_n 0, 1) := by decide +kernel
theorem d_M_tendDrum_1 : decode b_M_tendDrum 1 = .ok (.bipush 43, 2) := by decide +kernel
theorem d_M_tendDrum_3 : decode b_M_tendDrum 3 = .ok (.invokevirtual 46, 3) := by decide +kernel
theorem d_M_tendDrum_6 : decode b_M_tendDrum 6 = .ok (.aload_n 0, 1) := by decide +kernel
theorem d_M_tendDrum_7 : decode b_M_tendDrum 7 = .ok (.iload_n 1, 1) := by decide +kernel
theorem d_M_tendDrum_8 : decode b_M_tendDrum 8 = .ok (.iload_n 2, 1) := by decide +kernel
theorem d_M_tendDrum_9 : decode b_M_tendDrum 9 = .ok (.aload_n 0, 1) := by decide +kernel
theorem d_M_tendDrum_10 : decode b_M_tendDrum 10 = .ok (.getfield 7, 3) := by decide +kernel
theorem d_M_tendDrum_13 : decode b_M_tendDrum 13 = .ok (.iconst 3, 1) := by decide +kernel
theorem d_M_tendDrum_14 : decode b_M_tendDrum 14 = .ok (.iaload, 1) := by decide +kernel
theorem d_M_tendDrum_15 : decode b_M_tendDrum 15 = .ok (.iadd, 1) := by decide +kernel
theorem d_M_tendDrum_16 : decode b_M_tendDrum 16 = .ok (.invokevirtual 107, 3) := by decide +kernel
theorem d_M_tendDrum_19 : decode b_M_tendDrum 19 = .ok (.ireturn, 1) := by decide +kernel
theorem cy_M_tendDrum : zY y_M_tendDrum b_M_tendDrum 3 (some (FieldType.int)) 2 := ⟨kw_759, kw_3, by decide +kernel, by decide +kernel⟩
theorem d_M_tendBuoy_0 : decode b_M_tendBuoy 0 = .ok (.aload_n 0, 1) := by decide +kernel
theorem d_M_tendBuoy_1 : decode b_M_tendBuoy 1 = .ok (.bipush 83, 2) := by decide +kernel
theorem d_M_tendBuoy_3 : decode b_M_tendBuoy 3 = .ok (.invokevirtual 46, 3) := by decide +kernel
theorem d_M_tendBuoy_6 : decode b_M_tendBuoy 6 = .ok (.aload_n 0, 1) := by decide +kernel
theorem d_M_tendBuoy_7 : decode b_M_tendBuoy 7 = .ok (.getfield 7, 3) := by decide +kernel
theorem d_M_tendBuoy_10 : decode b_M_tendBuoy 10 = .ok (.iconst 4, 1) := by decide +kernel
theorem d_M_tendBuoy_11 : decode b_M_tendBuoy 11 = .ok (.iaload, 1) := by decide +kernel
theorem d_M_tendBuoy_12 : decode b_M_tendBuoy 12 = .ok (.ifCond .ne 12, 3) := by decide +kernel
theorem d_M_tendBuoy_15 : decode b_M_tendBuoy 15 = .ok (.aload_n 0, 1) := by decide +kernel
theorem d_M_tendBuoy_16 : decode b_M_tendBuoy 16 = .ok (.iload_n 1, 1) := by decide +kernel
theorem d_M_tendBuoy_17 : decode b_M_tendBuoy 17 = .ok (.iload_n 2, 1) := by decide +kernel
theorem d_M_tendBuoy_18 : decode b_M_tendBuoy 18 = .ok (.invokevirtual 104, 3) := by decide +kernel
theorem d_M_tendBuoy_21 : decode b_M_tendBuoy 21 = .ok (.goto 9, 3) := by decide +kernel
theorem d_M_tendBuoy_24 : decode b_M_tendBuoy 24 = .ok (.aload_n 0, 1) := by decide +kernel
theorem d_M_tendBuoy_25 : decode b_M_tendBuoy 25 = .ok (.getfield 7, 3) := by decide +kernel
theorem d_M_tendBuoy_28 : decode b_M_tendBuoy 28 = .ok (.iconst 4, 1) := by decide +kernel
theorem d_M_tendBuoy_29 : decode b_M_tendBuoy 29 = .ok (.iaload, 1) := by decide +kernel
theorem d_M_tendBuoy_30 : decode b_M_tendBuoy 30 = .ok (.ireturn, 1) := by decide +kernel
theorem cy_M_tendBuoy : zY y_M_tendBuoy b_M_tendBuoy 3 (some (FieldType.int)) 2 := ⟨kw_763, kw_3, by decide +kernel, by decide +kernel⟩
theorem d_M_tend_0 : decode b_M_tend 0 = .ok (.aload_n 0, 1) := by decide +kernel
theorem d_M_tend_1 : decode b_M_tend 1 = .ok (.getfield 13, 3) := by decide +kernel
theorem d_M_tend_4 : decode b_M_tend 4 = .ok (.iload_n 1, 1) := by decide +kernel
theorem d_M_tend_5 : decode b_M_tend 5 = .ok (.iaload, 1) := by decide +kernel
theorem d_M_tend_6 : decode b_M_tend 6 = .ok (.tableswitch 67 2 9 #[46, 46, 53, 53, 67, 67, 60, 60], 46) := by decide +kernel
theorem d_M_tend_52 : decode b_M_tend 52 = .ok (.aload_n 0, 1) := by decide +kernel
theorem d_M_tend_53 : decode b_M_tend 53 = .ok (.iload_n 1, 1) := by decide +kernel
theorem d_M_tend_54 : decode b_M_tend 54 = .ok (.iload_n 2, 1) := by decide +kernel
theorem d_M_tend_55 : decode b_M_tend 55 = .ok (.invokevirtual 107, 3) := by decide +kernel
theorem d_M_tend_58 : decode b_M_tend 58 = .ok (.ireturn, 1) := by decide +kernel
theorem d_M_tend_59 : decode b_M_tend 59 = .ok (.aload_n 0, 1) := by decide +kernel
theorem d_M_tend_60 : decode b_M_tend 60 = .ok (.iload_n 1, 1) := by decide +kernel
theorem d_M_tend_61 : decode b_M_tend 61 = .ok (.iload_n 2, 1) := by decide +kernel
theorem d_M_tend_62 : decode b_M_tend 62 = .ok (.invokevirtual 110, 3) := by decide +kernel
theorem d_M_tend_65 : decode b_M_tend 65 = .ok (.ireturn, 1) := by decide +kernel
theorem d_M_tend_66 : decode b_M_tend 66 = .ok (.aload_n 0, 1) := by decide +kernel
theorem d_M_tend_67 : decode b_M_tend 67 = .ok (.iload_n 1, 1) := by decide +kernel
theorem d_M_tend_68 : decode b_M_tend 68 = .ok (.iload_n 2, 1) := by decide +kernel
theorem d_M_tend_69 : decode b_M_tend 69 = .ok (.invokevirtual 113, 3) := by decide +kernel
theorem d_M_tend_72 : decode b_M_tend 72 = .ok (.ireturn, 1) := by decide +kernel
theorem d_M_tend_73 : decode b_M_tend 73 = .ok (.aload_n 0, 1) := by decide +kernel
theorem d_M_tend_74 : decode b_M_tend 74 = .ok (.iload_n 1, 1) := by decide +kernel
theorem d_M_tend_75 : decode b_M_tend 75 = .ok (.iload_n 2, 1) := by decide +kernel
theorem d_M_tend_76 : decode b_M_tend 76 = .ok (.invokevirtual 104, 3) := by decide +kernel
theorem d_M_tend_79 : decode b_M_tend 79 = .ok (.ireturn, 1) := by decide +kernel
theorem cy_M_tend : zY y_M_tend b_M_tend 3 (some (FieldType.int)) 2 := ⟨kw_747, kw_3, by decide +kernel, by decide +kernel⟩
theorem d_M_rankLamp_0 : decode b_M_rankLamp 0 = .ok (.aload_n 0, 1) := by decide +kernel
theorem d_M_rankLamp_1 : decode b_M_rankLamp 1 = .ok (.iconst 4, 1) := by decide +kernel
theorem d_M_rankLamp_2 : decode b_M_rankLamp 2 = .ok (.invokevirtual 46, 3) := by decide +kernel
theorem d_M_rankLamp_5 : decode b_M_rankLamp 5 = .ok (.aload_n 0, 1) := by decide +kernel
theorem d_M_rankLamp_6 : decode b_M_rankLamp 6 = .ok (.getfield 16, 3) := by decide +kernel
theorem d_M_rankLamp_9 : decode b_M_rankLamp 9 = .ok (.iload_n 1, 1) := by decide +kernel
theorem d_M_rankLamp_10 : decode b_M_rankLamp 10 = .ok (.iaload, 1) := by decide +kernel
theorem d_M_rankLamp_11 : decode b_M_rankLamp 11 = .ok (.bipush 9, 2) := by decide +kernel
theorem d_M_rankLamp_13 : decode b_M_rankLamp 13 = .ok (.irem, 1) := by decide +kernel
theorem d_M_rankLamp_14 : decode b_M_rankLamp 14 = .ok (.ireturn, 1) := by decide +kernel
theorem cy_M_rankLamp : zY y_M_rankLamp b_M_rankLamp 2 (some (FieldType.int)) 1 := ⟨kw_775, kw_3, by decide +kernel, by decide +kernel⟩
theorem d_M_rankOil_0 : decode b_M_rankOil 0 = .ok (.aload_n 0, 1) := by decide +kernel
theorem d_M_rankOil_1 : decode b_M_rankOil 1 = .ok (.bipush 14, 2) := by decide +kernel
theorem d_M_rankOil_3 : decode b_M_rankOil 3 = .ok (.invokevirtual 46, 3) := by decide +kernel
theorem d_M_rankOil_6 : decode b_M_rankOil 6 = .ok (.aload_n 0, 1) := by decide +kernel
theorem d_M_rankOil_7 : decode b_M_rankOil 7 = .ok (.iload_n 1, 1) := by decide +kernel
theorem d_M_rankOil_8 : decode b_M_rankOil 8 = .ok (.invokevirtual 116, 3) := by decide +kernel
theorem d_M_rankOil_11 : decode b_M_rankOil 11 = .ok (.iconst 1, 1) := by decide +kernel
theorem d_M_rankOil_12 : decode b_M_rankOil 12 = .ok (.iadd, 1) := by decide +kernel
theorem d_M_rankOil_13 : decode b_M_rankOil 13 = .ok (.ireturn, 1) := by decide +kernel
theorem cy_M_rankOil : zY y_M_rankOil b_M_rankOil 2 (some (FieldType.int)) 1 := ⟨kw_771, kw_3, by decide +kernel, by decide +kernel⟩
theorem d_M_rankDrum_0 : decode b_M_rankDrum 0 = .ok (.aload_n 0, 1) := by decide +kernel
theorem d_M_rankDrum_1 : decode b_M_rankDrum 1 = .ok (.bipush 44, 2) := by decide +kernel
theorem d_M_rankDrum_3 : decode b_M_rankDrum 3 = .ok (.invokevirtual 46, 3) := by decide +kernel
theorem d_M_rankDrum_6 : decode b_M_rankDrum 6 = .ok (.iconst 2, 1) := by decide +kernel
theorem d_M_rankDrum_7 : decode b_M_rankDrum 7 = .ok (.aload_n 0, 1) := by decide +kernel
theorem d_M_rankDrum_8 : decode b_M_rankDrum 8 = .ok (.iload_n 1, 1) := by decide +kernel
theorem d_M_rankDrum_9 : decode b_M_rankDrum 9 = .ok (.invokevirtual 119, 3) := by decide +kernel
theorem d_M_rankDrum_12 : decode b_M_rankDrum 12 = .ok (.imul, 1) := by decide +kernel
theorem d_M_rankDrum_13 : decode b_M_rankDrum 13 = .ok (.ireturn, 1) := by decide +kernel
theorem cy_M_rankDrum : zY y_M_rankDrum b_M_rankDrum 2 (some (FieldType.int)) 1 := ⟨kw_779, kw_3, by decide +kernel, by decide +kernel⟩
theorem d_M_rankFlare_0 : decode b_M_rankFlare 0 = .ok (.aload_n 0, 1) := by decide +kernel
theorem d_M_rankFlare_1 : decode b_M_rankFlare 1 = .ok (.bipush 74, 2) := by decide +kernel
theorem d_M_rankFlare_3 : decode b_M_rankFlare 3 = .ok (.invokevirtual 46, 3) := by decide +kernel
theorem d_M_rankFlare_6 : decode b_M_rankFlare 6 = .ok (.aload_n 0, 1) := by decide +kernel
theorem d_M_rankFlare_7 : decode b_M_rankFlare 7 = .ok (.iload_n 1, 1) := by decide +kernel
theorem d_M_rankFlare_8 : decode b_M_rankFlare 8 = .ok (.invokevirtual 116, 3) := by decide +kernel
theorem d_M_rankFlare_11 : decode b_M_rankFlare 11 = .ok (.aload_n 0, 1) := by decide +kernel
theorem d_M_rankFlare_12 : decode b_M_rankFlare 12 = .ok (.getfield 22, 3) := by decide +kernel
theorem d_M_rankFlare_15 : decode b_M_rankFlare 15 = .ok (.iload_n 1, 1) := by decide +kernel
theorem d_M_rankFlare_16 : decode b_M_rankFlare 16 = .ok (.iaload, 1) := by decide +kernel
theorem d_M_rankFlare_17 : decode b_M_rankFlare 17 = .ok (.iconst 5, 1) := by decide +kernel
theorem d_M_rankFlare_18 : decode b_M_rankFlare 18 = .ok (.irem, 1) := by decide +kernel
theorem d_M_rankFlare_19 : decode b_M_rankFlare 19 = .ok (.iadd, 1) := by decide +kernel
theorem d_M_rankFlare_20 : decode b_M_rankFlare 20 = .ok (.ireturn, 1) := by decide +kernel
theorem cy_M_rankFlare : zY y_M_rankFlare b_M_rankFlare 2 (some (FieldType.int)) 1 := ⟨kw_787, kw_3, by decide +kernel, by decide +kernel⟩
theorem d_M_rankOuter_0 : decode b_M_rankOuter 0 = .ok (.aload_n 0, 1) := by decide +kernel
theorem d_M_rankOuter_1 : decode b_M_rankOuter 1 = .ok (.bipush 94, 2) := by decide +kernel
theorem d_M_rankOuter_3 : decode b_M_rankOuter 3 = .ok (.invokevirtual 46, 3) := by decide +kernel
theorem d_M_rankOuter_6 : decode b_M_rankOuter 6 = .ok (.aload_n 0, 1) := by decide +kernel
theorem d_M_rankOuter_7 : decode b_M_rankOuter 7 = .ok (.iload_n 1, 1) := by decide +kernel
theorem d_M_rankOuter_8 : decode b_M_rankOuter 8 = .ok (.invokevirtual 122, 3) := by decide +kernel
theorem d_M_rankOuter_11 : decode b_M_rankOuter 11 = .ok (.aload_n 0, 1) := by decide +kernel
theorem d_M_rankOuter_12 : decode b_M_rankOuter 12 = .ok (.getfield 19, 3) := by decide +kernel
theorem d_M_rankOuter_15 : decode b_M_rankOuter 15 = .ok (.iload_n 1, 1) := by decide +kernel
theorem d_M_rankOuter_16 : decode b_M_rankOuter 16 = .ok (.iaload, 1) := by decide +kernel
theorem d_M_rankOuter_17 : decode b_M_rankOuter 17 = .ok (.iconst 3, 1) := by decide +kernel
theorem d_M_rankOuter_18 : decode b_M_rankOuter 18 = .ok (.irem, 1) := by decide +kernel
theorem d_M_rankOuter_19 : decode b_M_rankOuter 19 = .ok (.iadd, 1) := by decide +kernel
theorem d_M_rankOuter_20 : decode b_M_rankOuter 20 = .ok (.ireturn, 1) := by decide +kernel
theorem cy_M_rankOuter : zY y_M_rankOuter b_M_rankOuter 2 (some (FieldType.int)) 1 := ⟨kw_783, kw_3, by decide +kernel, by decide +kernel⟩
theorem d_M_rank_0 : decode b_M_rank 0 = .ok (.aload_n 0, 1) := by decide +kernel
theorem d_M_rank_1 : decode b_M_rank 1 = .ok (.getfield 13, 3) := by decide +kernel
theorem d_M_rank_4 : decode b_M_rank 4 = .ok (.iload_n 1, 1) := by decide +kernel
theorem d_M_rank_5 : decode b_M_rank 5 = .ok (.iaload, 1) := by decide +kernel
theorem d_M_rank_6 : decode b_M_rank 6 = .ok (.tableswitch 74 1 9 #[50, 50, 50, 56, 56, 62, 74, 74, 68], 50) := by decide +kernel
theorem d_M_rank_56 : decode b_M_rank 56 = .ok (.aload_n 0, 1) := by decide +kernel
theorem d_M_rank_57 : decode b_M_rank 57 = .ok (.iload_n 1, 1) := by decide +kernel
theorem d_M_rank_58 : decode b_M_rank 58 = .ok (.invokevirtual 119, 3) := by decide +kernel
theorem d_M_rank_61 : decode b_M_rank 61 = .ok (.ireturn, 1) := by decide +kernel
theorem d_M_rank_62 : decode b_M_rank 62 = .ok (.aload_n 0, 1) := by decide +kernel
theorem d_M_rank_63 : decode b_M_rank 63 = .ok (.iload_n 1, 1) := by decide +kernel
theorem d_M_rank_64 : decode b_M_rank 64 = .ok (.invokevirtual 125, 3) := by decide +kernel
theorem d_M_rank_67 : decode b_M_rank 67 = .ok (.ireturn, 1) := by decide +kernel
theorem d_M_rank_68 : decode b_M_rank 68 = .ok (.aload_n 0, 1) := by decide +kernel
theorem d_M_rank_69 : decode b_M_rank 69 = .ok (.iload_n 1, 1) := by decide +kernel
theorem d_M_rank_70 : decode b_M_rank 70 = .ok (.invokevirtual 116, 3) := by decide +kernel
theorem d_M_rank_73 : decode b_M_rank 73 = .ok (.ireturn, 1) := by decide +kernel
theorem d_M_rank_74 : decode b_M_rank 74 = .ok (.aload_n 0, 1) := by decide +kernel
theorem d_M_rank_75 : decode b_M_rank 75 = .ok (.iload_n 1, 1) := by decide +kernel
theorem d_M_rank_76 : decode b_M_rank 76 = .ok (.invokevirtual 128, 3) := by decide +kernel
theorem d_M_rank_79 : decode b_M_rank 79 = .ok (.ireturn, 1) := by decide +kernel
theorem d_M_rank_80 : decode b_M_rank 80 = .ok (.aload_n 0, 1) := by decide +kernel
theorem d_M_rank_81 : decode b_M_rank 81 = .ok (.iload_n 1, 1) := by decide +kernel
theorem d_M_rank_82 : decode b_M_rank 82 = .ok (.invokevirtual 122, 3) := by decide +kernel
theorem d_M_rank_85 : decode b_M_rank 85 = .ok (.ireturn, 1) := by decide +kernel
theorem cy_M_rank : zY y_M_rank b_M_rank 2 (some (FieldType.int)) 1 := ⟨kw_767, kw_3, by decide +kernel, by decide +kernel⟩
theorem d_M_toneOil_0 : decode b_M_toneOil 0 = .ok (.aload_n 0, 1) := by decide +kernel
theorem d_M_toneOil_1 : decode b_M_toneOil 1 = .ok (.bipush 16, 2) := by decide +kernel
theorem d_M_toneOil_3 : decode b_M_toneOil 3 = .ok (.invokevirtual 46, 3) := by decide +kernel
theorem d_M_toneOil_6 : decode b_M_toneOil 6 = .ok (.bipush 7, 2) := by decide +kernel
theorem d_M_toneOil_8 : decode b_M_toneOil 8 = .ok (.ireturn, 1) := by decide +kernel
theorem cy_M_toneOil : zY y_M_toneOil b_M_toneOil 1 (some (FieldType.int)) 0 := ⟨kw_803, kw_3, by decide +kernel, by decide +kernel⟩
theorem d_M_toneDrum_0 : decode b_M_toneDrum 0 = .ok (.aload_n 0, 1) := by decide +kernel
theorem d_M_toneDrum_1 : decode b_M_toneDrum 1 = .ok (.bipush 46, 2) := by decide +kernel
theorem d_M_toneDrum_3 : decode b_M_toneDrum 3 = .ok (.invokevirtual 46, 3) := by decide +kernel
theorem d_M_toneDrum_6 : decode b_M_toneDrum 6 = .ok (.aload_n 0, 1) := by decide +kernel
theorem d_M_toneDrum_7 : decode b_M_toneDrum 7 = .ok (.invokevirtual 131, 3) := by decide +kernel
theorem d_M_toneDrum_10 : decode b_M_toneDrum 10 = .ok (.aload_n 0, 1) := by decide +kernel
theorem d_M_toneDrum_11 : decode b_M_toneDrum 11 = .ok (.getfield 7, 3) := by decide +kernel
theorem d_M_toneDrum_14 : decode b_M_toneDrum 14 = .ok (.iconst 5, 1) := by decide +kernel
theorem d_M_toneDrum_15 : decode b_M_toneDrum 15 = .ok (.iaload, 1) := by decide +kernel
theorem d_M_toneDrum_16 : decode b_M_toneDrum 16 = .ok (.iadd, 1) := by decide +kernel
theorem d_M_toneDrum_17 : decode b_M_toneDrum 17 = .ok (.ireturn, 1) := by decide +kernel
theorem cy_M_toneDrum : zY y_M_toneDrum b_M_toneDrum 1 (some (FieldType.int)) 0 := ⟨kw_799, kw_3, by decide +kernel, by decide +kernel⟩
theorem d_M_toneFlare_0 : decode b_M_toneFlare 0 = .ok (.aload_n 0, 1) := by decide +kernel
theorem d_M_toneFlare_1 : decode b_M_toneFlare 1 = .ok (.bipush 76, 2) := by decide +kernel
theorem d_M_toneFlare_3 : decode b_M_toneFlare 3 = .ok (.invokevirtual 46, 3) := by decide +kernel
theorem d_M_toneFlare_6 : decode b_M_toneFlare 6 = .ok (.bipush 9, 2) := by decide +kernel
theorem d_M_toneFlare_8 : decode b_M_toneFlare 8 = .ok (.ireturn, 1) := by decide +kernel
theorem cy_M_toneFlare : zY y_M_toneFlare b_M_toneFlare 1 (some (FieldType.int)) 0 := ⟨kw_807, kw_3, by decide +kernel, by decide +kernel⟩
theorem d_M_toneOuter_0 : decode b_M_toneOuter 0 = .ok (.aload_n 0, 1) := by decide +kernel
theorem d_M_toneOuter_1 : decode b_M_toneOuter 1 = .ok (.bipush 96, 2) := by decide +kernel
theorem d_M_toneOuter_3 : decode b_M_toneOuter 3 = .ok (.invokevirtual 46, 3) := by decide +kernel
theorem d_M_toneOuter_6 : decode b_M_toneOuter 6 = .ok (.aload_n 0, 1) := by decide +kernel
theorem d_M_toneOuter_7 : decode b_M_toneOuter 7 = .ok (.invokevirtual 134, 3) := by decide +kernel
theorem d_M_toneOuter_10 : decode b_M_toneOuter 10 = .ok (.istore_n 2, 1) := by decide +kernel
theorem d_M_toneOuter_11 : decode b_M_toneOuter 11 = .ok (.iload_n 2, 1) := by decide +kernel
theorem d_M_toneOuter_12 : decode b_M_toneOuter 12 = .ok (.aload_n 0, 1) := by decide +kernel
theorem d_M_toneOuter_13 : decode b_M_toneOuter 13 = .ok (.iload_n 1, 1) := by decide +kernel
theorem d_M_toneOuter_14 : decode b_M_toneOuter 14 = .ok (.invokevirtual 137, 3) := by decide +kernel
theorem d_M_toneOuter_17 : decode b_M_toneOuter 17 = .ok (.iadd, 1) := by decide +kernel
theorem d_M_toneOuter_18 : decode b_M_toneOuter 18 = .ok (.ireturn, 1) := by decide +kernel
theorem cy_M_toneOuter : zY y_M_toneOuter b_M_toneOuter 3 (some (FieldType.int)) 1 := ⟨kw_811, kw_3, by decide +kernel, by decide +kernel⟩
theorem d_M_tone_0 : decode b_M_tone 0 = .ok (.aload_n 0, 1) := by decide +kernel
theorem d_M_tone_1 : decode b_M_tone 1 = .ok (.getfield 13, 3) := by decide +kernel
theorem d_M_tone_4 : decode b_M_tone 4 = .ok (.iload_n 1, 1) := by decide +kernel
theorem d_M_tone_5 : decode b_M_tone 5 = .ok (.iaload, 1) := by decide +kernel
theorem d_M_tone_6 : decode b_M_tone 6 = .ok (.tableswitch 54 4 9 #[38, 38, 54, 43, 43, 48], 38) := by decide +kernel
theorem d_M_tone_44 : decode b_M_tone 44 = .ok (.aload_n 0, 1) := by decide +kernel
theorem d_M_tone_45 : decode b_M_tone 45 = .ok (.invokevirtual 140, 3) := by decide +kernel
theorem d_M_tone_48 : decode b_M_tone 48 = .ok (.ireturn, 1) := by decide +kernel
theorem d_M_tone_49 : decode b_M_tone 49 = .ok (.aload_n 0, 1) := by decide +kernel
theorem d_M_tone_50 : decode b_M_tone 50 = .ok (.invokevirtual 134, 3) := by decide +kernel
theorem d_M_tone_53 : decode b_M_tone 53 = .ok (.ireturn, 1) := by decide +kernel
theorem d_M_tone_54 : decode b_M_tone 54 = .ok (.aload_n 0, 1) := by decide +kernel
theorem d_M_tone_55 : decode b_M_tone 55 = .ok (.iload_n 1, 1) := by decide +kernel
theorem d_M_tone_56 : decode b_M_tone 56 = .ok (.invokevirtual 143, 3) := by decide +kernel
theorem d_M_tone_59 : decode b_M_tone 59 = .ok (.ireturn, 1) := by decide +kernel
theorem d_M_tone_60 : decode b_M_tone 60 = .ok (.aload_n 0, 1) := by decide +kernel
theorem d_M_tone_61 : decode b_M_tone 61 = .ok (.invokevirtual 131, 3) := by decide +kernel
theorem d_M_tone_64 : decode b_M_tone 64 = .ok (.ireturn, 1) := by decide +kernel
theorem cy_M_tone : zY y_M_tone b_M_tone 2 (some (FieldType.int)) 1 := ⟨kw_795, kw_3, by decide +kernel, by decide +kernel⟩
theorem d_M_horn_0 : decode b_M_horn 0 = .ok (.aload_n 0, 1) := by decide +kernel
theorem d_M_horn_1 : decode b_M_horn 1 = .ok (.getfield 13, 3) := by decide +kernel
theorem d_M_horn_4 : decode b_M_horn 4 = .ok (.iload_n 1, 1) := by decide +kernel
theorem d_M_horn_5 : decode b_M_horn 5 = .ok (.iaload, 1) := by decide +kernel
theorem d_M_horn_6 : decode b_M_horn 6 = .ok (.iconst 5, 1) := by decide +kernel
theorem d_M_horn_7 : decode b_M_horn 7 = .ok (.if_icmp .ne 17, 3) := by decide +kernel
theorem d_M_horn_10 : decode b_M_horn 10 = .ok (.aload_n 0, 1) := by decide +kernel
theorem d_M_horn_11 : decode b_M_horn 11 = .ok (.bipush 55, 2) := by decide +kernel
theorem d_M_horn_13 : decode b_M_horn 13 = .ok (.invokevirtual 46, 3) := by decide +kernel
theorem d_M_horn_16 : decode b_M_horn 16 = .ok (.aload_n 0, 1) := by decide +kernel
theorem d_M_horn_17 : decode b_M_horn 17 = .ok (.iload_n 1, 1) := by decide +kernel
theorem d_M_horn_18 : decode b_M_horn 18 = .ok (.invokevirtual 146, 3) := by decide +kernel
theorem d_M_horn_21 : decode b_M_horn 21 = .ok (.iload_n 2, 1) := by decide +kernel
theorem d_M_horn_22 : decode b_M_horn 22 = .ok (.iadd, 1) := by decide +kernel
theorem d_M_horn_23 : decode b_M_horn 23 = .ok (.ireturn, 1) := by decide +kernel
theorem d_M_horn_24 : decode b_M_horn 24 = .ok (.aload_n 0, 1) := by decide +kernel
theorem d_M_horn_25 : decode b_M_horn 25 = .ok (.iconst 5, 1) := by decide +kernel
theorem d_M_horn_26 : decode b_M_horn 26 = .ok (.invokevirtual 46, 3) := by decide +kernel
theorem d_M_horn_29 : decode b_M_horn 29 = .ok (.aload_n 0, 1) := by decide +kernel
theorem d_M_horn_30 : decode b_M_horn 30 = .ok (.iload_n 1, 1) := by decide +kernel
theorem d_M_horn_31 : decode b_M_horn 31 = .ok (.invokevirtual 146, 3) := by decide +kernel
theorem d_M_horn_34 : decode b_M_horn 34 = .ok (.iload_n 2, 1) := by decide +kernel
theorem d_M_horn_35 : decode b_M_horn 35 = .ok (.imul, 1) := by decide +kernel
theorem d_M_horn_36 : decode b_M_horn 36 = .ok (.istore_n 3, 1) := by decide +kernel
theorem d_M_horn_37 : decode b_M_horn 37 = .ok (.iload_n 3, 1) := by decide +kernel
theorem d_M_horn_38 : decode b_M_horn 38 = .ok (.aload_n 0, 1) := by decide +kernel
theorem d_M_horn_39 : decode b_M_horn 39 = .ok (.iload_n 1, 1) := by decide +kernel
theorem d_M_horn_40 : decode b_M_horn 40 = .ok (.iconst 0, 1) := by decide +kernel
theorem d_M_horn_41 : decode b_M_horn 41 = .ok (.invokevirtual 149, 3) := by decide +kernel
theorem d_M_horn_44 : decode b_M_horn 44 = .ok (.iadd, 1) := by decide +kernel
theorem d_M_horn_45 : decode b_M_horn 45 = .ok (.ireturn, 1) := by decide +kernel
theorem cy_M_horn : zY y_M_horn b_M_horn 4 (some (FieldType.int)) 2 := ⟨kw_791, kw_3, by decide +kernel, by decide +kernel⟩
theorem d_M_dial_0 : decode b_M_dial 0 = .ok (.iload_n 1, 1) := by decide +kernel
theorem d_M_dial_1 : decode b_M_dial 1 = .ok (.iconst 0, 1) := by decide +kernel
theorem d_M_dial_2 : decode b_M_dial 2 = .ok (.bipush 7, 2) := by decide +kernel
theorem d_M_dial_4 : decode b_M_dial 4 = .ok (.invokestatic 36, 3) := by decide +kernel
theorem d_M_dial_7 : decode b_M_dial 7 = .ok (.ifCond .eq 14, 3) := by decide +kernel
theorem d_M_dial_10 : decode b_M_dial 10 = .ok (.iload_n 2, 1) := by decide +kernel
theorem d_M_dial_11 : decode b_M_dial 11 = .ok (.iconst 0, 1) := by decide +kernel
theorem d_M_dial_12 : decode b_M_dial 12 = .ok (.sipush 1000, 3) := by decide +kernel
theorem d_M_dial_15 : decode b_M_dial 15 = .ok (.invokestatic 36, 3) := by decide +kernel
theorem d_M_dial_18 : decode b_M_dial 18 = .ok (.ifCond .ne 5, 3) := by decide +kernel
theorem d_M_dial_21 : decode b_M_dial 21 = .ok (.iconst (-1), 1) := by decide +kernel
theorem d_M_dial_22 : decode b_M_dial 22 = .ok (.ireturn, 1) := by decide +kernel
theorem d_M_dial_23 : decode b_M_dial 23 = .ok (.aload_n 0, 1) := by decide +kernel
theorem d_M_dial_24 : decode b_M_dial 24 = .ok (.getfield 7, 3) := by decide +kernel
theorem d_M_dial_27 : decode b_M_dial 27 = .ok (.iload_n 1, 1) := by decide +kernel
theorem d_M_dial_28 : decode b_M_dial 28 = .ok (.iaload, 1) := by decide +kernel
theorem d_M_dial_29 : decode b_M_dial 29 = .ok (.istore_n 3, 1) := by decide +kernel
theorem d_M_dial_30 : decode b_M_dial 30 = .ok (.aload_n 0, 1) := by decide +kernel
theorem d_M_dial_31 : decode b_M_dial 31 = .ok (.getfield 7, 3) := by decide +kernel
theorem d_M_dial_34 : decode b_M_dial 34 = .ok (.iload_n 1, 1) := by decide +kernel
theorem d_M_dial_35 : decode b_M_dial 35 = .ok (.iload_n 2, 1) := by decide +kernel
theorem d_M_dial_36 : decode b_M_dial 36 = .ok (.iastore, 1) := by decide +kernel
theorem d_M_dial_37 : decode b_M_dial 37 = .ok (.iload_n 3, 1) := by decide +kernel
theorem d_M_dial_38 : decode b_M_dial 38 = .ok (.ireturn, 1) := by decide +kernel
theorem cy_M_dial : zY y_M_dial b_M_dial 4 (some (FieldType.int)) 2 := ⟨kw_634, kw_3, by decide +kernel, by decide +kernel⟩
theorem d_M_lamp_0 : decode b_M_lamp 0 = .ok (.iload_n 1, 1) := by decide +kernel
theorem d_M_lamp_1 : decode b_M_lamp 1 = .ok (.iconst 1, 1) := by decide +kernel
theorem d_M_lamp_2 : decode b_M_lamp 2 = .ok (.bipush 9, 2) := by decide +kernel
theorem d_M_lamp_4 : decode b_M_lamp 4 = .ok (.invokestatic 36, 3) := by decide +kernel
theorem d_M_lamp_7 : decode b_M_lamp 7 = .ok (.ifCond .eq 14, 3) := by decide +kernel
theorem d_M_lamp_10 : decode b_M_lamp 10 = .ok (.iload_n 2, 1) := by decide +kernel
theorem d_M_lamp_11 : decode b_M_lamp 11 = .ok (.iconst 0, 1) := by decide +kernel
theorem d_M_lamp_12 : decode b_M_lamp 12 = .ok (.sipush 500, 3) := by decide +kernel
theorem d_M_lamp_15 : decode b_M_lamp 15 = .ok (.invokestatic 36, 3) := by decide +kernel
theorem d_M_lamp_18 : decode b_M_lamp 18 = .ok (.ifCond .ne 5, 3) := by decide +kernel
theorem d_M_lamp_21 : decode b_M_lamp 21 = .ok (.iconst (-1), 1) := by decide +kernel
theorem d_M_lamp_22 : decode b_M_lamp 22 = .ok (.ireturn, 1) := by decide +kernel
theorem d_M_lamp_23 : decode b_M_lamp 23 = .ok (.aload_n 0, 1) := by decide +kernel
theorem d_M_lamp_24 : decode b_M_lamp 24 = .ok (.getfield 32, 3) := by decide +kernel
theorem d_M_lamp_27 : decode b_M_lamp 27 = .ok (.bipush 60, 2) := by decide +kernel
theorem d_M_lamp_29 : decode b_M_lamp 29 = .ok (.if_icmp .ne 6, 3) := by decide +kernel
theorem d_M_lamp_32 : decode b_M_lamp 32 = .ok (.bipush (-2), 2) := by decide +kernel
theorem d_M_lamp_34 : decode b_M_lamp 34 = .ok (.ireturn, 1) := by decide +kernel
theorem d_M_lamp_35 : decode b_M_lamp 35 = .ok (.aload_n 0, 1) := by decide +kernel
theorem d_M_lamp_36 : decode b_M_lamp 36 = .ok (.getfield 13, 3) := by decide +kernel
theorem d_M_lamp_39 : decode b_M_lamp 39 = .ok (.aload_n 0, 1) := by decide +kernel
theorem d_M_lamp_40 : decode b_M_lamp 40 = .ok (.getfield 32, 3) := by decide +kernel
theorem d_M_lamp_43 : decode b_M_lamp 43 = .ok (.iload_n 1, 1) := by decide +kernel
theorem d_M_lamp_44 : decode b_M_lamp 44 = .ok (.iastore, 1) := by decide +kernel
theorem d_M_lamp_45 : decode b_M_lamp 45 = .ok (.aload_n 0, 1) := by decide +kernel
theorem d_M_lamp_46 : decode b_M_lamp 46 = .ok (.getfield 16, 3) := by decide +kernel
theorem d_M_lamp_49 : decode b_M_lamp 49 = .ok (.aload_n 0, 1) := by decide +kernel
theorem d_M_lamp_50 : decode b_M_lamp 50 = .ok (.getfield 32, 3) := by decide +kernel
theorem d_M_lamp_53 : decode b_M_lamp 53 = .ok (.iload_n 2, 1) := by decide +kernel
theorem d_M_lamp_54 : decode b_M_lamp 54 = .ok (.iastore, 1) := by decide +kernel
theorem d_M_lamp_55 : decode b_M_lamp 55 = .ok (.aload_n 0, 1) := by decide +kernel
theorem d_M_lamp_56 : decode b_M_lamp 56 = .ok (.dup, 1) := by decide +kernel
theorem d_M_lamp_57 : decode b_M_lamp 57 = .ok (.getfield 32, 3) := by decide +kernel
theorem d_M_lamp_60 : decode b_M_lamp 60 = .ok (.iconst 1, 1) := by decide +kernel
theorem d_M_lamp_61 : decode b_M_lamp 61 = .ok (.iadd, 1) := by decide +kernel
theorem d_M_lamp_62 : decode b_M_lamp 62 = .ok (.putfield 32, 3) := by decide +kernel
theorem d_M_lamp_65 : decode b_M_lamp 65 = .ok (.aload_n 0, 1) := by decide +kernel
theorem d_M_lamp_66 : decode b_M_lamp 66 = .ok (.getfield 32, 3) := by decide +kernel
theorem d_M_lamp_69 : decode b_M_lamp 69 = .ok (.iconst 1, 1) := by decide +kernel
theorem d_M_lamp_70 : decode b_M_lamp 70 = .ok (.isub, 1) := by decide +kernel
theorem d_M_lamp_71 : decode b_M_lamp 71 = .ok (.ireturn, 1) := by decide +kernel
theorem cy_M_lamp : zY y_M_lamp b_M_lamp 3 (some (FieldType.int)) 2 := ⟨kw_641, kw_3, by decide +kernel, by decide +kernel⟩
theorem d_M_ask_0 : decode b_M_ask 0 = .ok (.aload_n 0, 1) := by decide +kernel
theorem d_M_ask_1 : decode b_M_ask 1 = .ok (.iload_n 1, 1) := by decide +kernel
theorem d_M_ask_2 : decode b_M_ask 2 = .ok (.invokevirtual 152, 3) := by decide +kernel
theorem d_M_ask_5 : decode b_M_ask 5 = .ok (.ifCond .eq 13, 3) := by decide +kernel
theorem d_M_ask_8 : decode b_M_ask 8 = .ok (.iload_n 2, 1) := by decide +kernel
theorem d_M_ask_9 : decode b_M_ask 9 = .ok (.iconst 0, 1) := by decide +kernel
theorem d_M_ask_10 : decode b_M_ask 10 = .ok (.bipush 6, 2) := by decide +kernel
theorem d_M_ask_12 : decode b_M_ask 12 = .ok (.invokestatic 36, 3) := by decide +kernel
theorem d_M_ask_15 : decode b_M_ask 15 = .ok (.ifCond .ne 7, 3) := by decide +kernel
theorem d_M_ask_18 : decode b_M_ask 18 = .ok (.ldc2_w 156, 3) := by decide +kernel
theorem d_M_ask_21 : decode b_M_ask 21 = .ok (.lreturn, 1) := by decide +kernel
theorem d_M_ask_22 : decode b_M_ask 22 = .ok (.aload_n 0, 1) := by decide +kernel
theorem d_M_ask_23 : decode b_M_ask 23 = .ok (.invokevirtual 158, 3) := by decide +kernel
theorem d_M_ask_26 : decode b_M_ask 26 = .ok (.iload_n 2, 1) := by decide +kernel
theorem d_M_ask_27 : decode b_M_ask 27 = .ok (.iconst 4, 1) := by decide +kernel
theorem d_M_ask_28 : decode b_M_ask 28 = .ok (.if_icmp .le 15, 3) := by decide +kernel
theorem d_M_ask_31 : decode b_M_ask 31 = .ok (.aload_n 0, 1) := by decide +kernel
theorem d_M_ask_32 : decode b_M_ask 32 = .ok (.iload_n 1, 1) := by decide +kernel
theorem d_M_ask_33 : decode b_M_ask 33 = .ok (.invokevirtual 161, 3) := by decide +kernel
theorem d_M_ask_36 : decode b_M_ask 36 = .ok (.ifCond .ne 7, 3) := by decide +kernel
theorem d_M_ask_39 : decode b_M_ask 39 = .ok (.ldc2_w 164, 3) := by decide +kernel
theorem d_M_ask_42 : decode b_M_ask 42 = .ok (.lreturn, 1) := by decide +kernel
theorem d_M_ask_43 : decode b_M_ask 43 = .ok (.iload_n 2, 1) := by decide +kernel
theorem d_M_ask_44 : decode b_M_ask 44 = .ok (.tableswitch 87 0 5 #[40, 48, 56, 64, 72, 79], 40) := by decide +kernel
theorem d_M_ask_84 : decode b_M_ask 84 = .ok (.aload_n 0, 1) := by decide +kernel
theorem d_M_ask_85 : decode b_M_ask 85 = .ok (.iload_n 1, 1) := by decide +kernel
theorem d_M_ask_86 : decode b_M_ask 86 = .ok (.iload_n 3, 1) := by decide +kernel
theorem d_M_ask_87 : decode b_M_ask 87 = .ok (.invokevirtual 166, 3) := by decide +kernel
theorem d_M_ask_90 : decode b_M_ask 90 = .ok (.i2l, 1) := by decide +kernel
theorem d_M_ask_91 : decode b_M_ask 91 = .ok (.lreturn, 1) := by decide +kernel
theorem d_M_ask_92 : decode b_M_ask 92 = .ok (.aload_n 0, 1) := by decide +kernel
theorem d_M_ask_93 : decode b_M_ask 93 = .ok (.iload_n 1, 1) := by decide +kernel
theorem d_M_ask_94 : decode b_M_ask 94 = .ok (.iload_n 3, 1) := by decide +kernel
theorem d_M_ask_95 : decode b_M_ask 95 = .ok (.invokevirtual 149, 3) := by decide +kernel
theorem d_M_ask_98 : decode b_M_ask 98 = .ok (.i2l, 1) := by decide +kernel
theorem d_M_ask_99 : decode b_M_ask 99 = .ok (.lreturn, 1) := by decide +kernel
theorem d_M_ask_100 : decode b_M_ask 100 = .ok (.aload_n 0, 1) := by decide +kernel
theorem d_M_ask_101 : decode b_M_ask 101 = .ok (.iload_n 1, 1) := by decide +kernel
theorem d_M_ask_102 : decode b_M_ask 102 = .ok (.iload_n 3, 1) := by decide +kernel
theorem d_M_ask_103 : decode b_M_ask 103 = .ok (.invokevirtual 169, 3) := by decide +kernel
theorem d_M_ask_106 : decode b_M_ask 106 = .ok (.i2l, 1) := by decide +kernel
theorem d_M_ask_107 : decode b_M_ask 107 = .ok (.lreturn, 1) := by decide +kernel
theorem d_M_ask_108 : decode b_M_ask 108 = .ok (.aload_n 0, 1) := by decide +kernel
theorem d_M_ask_109 : decode b_M_ask 109 = .ok (.iload_n 1, 1) := by decide +kernel
theorem d_M_ask_110 : decode b_M_ask 110 = .ok (.iload_n 3, 1) := by decide +kernel
theorem d_M_ask_111 : decode b_M_ask 111 = .ok (.invokevirtual 172, 3) := by decide +kernel
theorem d_M_ask_114 : decode b_M_ask 114 = .ok (.i2l, 1) := by decide +kernel
theorem d_M_ask_115 : decode b_M_ask 115 = .ok (.lreturn, 1) := by decide +kernel
theorem d_M_ask_116 : decode b_M_ask 116 = .ok (.aload_n 0, 1) := by decide +kernel
theorem d_M_ask_117 : decode b_M_ask 117 = .ok (.iload_n 1, 1) := by decide +kernel
theorem d_M_ask_118 : decode b_M_ask 118 = .ok (.invokevirtual 137, 3) := by decide +kernel
theorem d_M_ask_121 : decode b_M_ask 121 = .ok (.i2l, 1) := by decide +kernel
theorem d_M_ask_122 : decode b_M_ask 122 = .ok (.lreturn, 1) := by decide +kernel
theorem d_M_ask_123 : decode b_M_ask 123 = .ok (.aload_n 0, 1) := by decide +kernel
theorem d_M_ask_124 : decode b_M_ask 124 = .ok (.iload_n 1, 1) := by decide +kernel
theorem d_M_ask_125 : decode b_M_ask 125 = .ok (.iload_n 3, 1) := by decide +kernel
theorem d_M_ask_126 : decode b_M_ask 126 = .ok (.invokevirtual 175, 3) := by decide +kernel
theorem d_M_ask_129 : decode b_M_ask 129 = .ok (.i2l, 1) := by decide +kernel
theorem d_M_ask_130 : decode b_M_ask 130 = .ok (.lreturn, 1) := by decide +kernel
theorem d_M_ask_131 : decode b_M_ask 131 = .ok (.aload_n 0, 1) := by decide +kernel
theorem d_M_ask_132 : decode b_M_ask 132 = .ok (.iload_n 1, 1) := by decide +kernel
theorem d_M_ask_133 : decode b_M_ask 133 = .ok (.invokevirtual 146, 3) := by decide +kernel
theorem d_M_ask_136 : decode b_M_ask 136 = .ok (.i2l, 1) := by decide +kernel
theorem d_M_ask_137 : decode b_M_ask 137 = .ok (.lreturn, 1) := by decide +kernel
theorem cy_M_ask : zY y_M_ask b_M_ask 4 (some (FieldType.long)) 3 := ⟨kw_645, kw_3, by decide +kernel, by decide +kernel⟩
theorem d_M_trace_0 : decode b_M_trace 0 = .ok (.iload_n 1, 1) := by decide +kernel
theorem d_M_trace_1 : decode b_M_trace 1 = .ok (.iconst 0, 1) := by decide +kernel
theorem d_M_trace_2 : decode b_M_trace 2 = .ok (.aload_n 0, 1) := by decide +kernel
theorem d_M_trace_3 : decode b_M_trace 3 = .ok (.getfield 40, 3) := by decide +kernel
theorem d_M_trace_6 : decode b_M_trace 6 = .ok (.iconst 1, 1) := by decide +kernel
theorem d_M_trace_7 : decode b_M_trace 7 = .ok (.isub, 1) := by decide +kernel
theorem d_M_trace_8 : decode b_M_trace 8 = .ok (.invokestatic 36, 3) := by decide +kernel
theorem d_M_trace_11 : decode b_M_trace 11 = .ok (.ifCond .eq 12, 3) := by decide +kernel
theorem d_M_trace_14 : decode b_M_trace 14 = .ok (.aload_n 0, 1) := by decide +kernel
theorem d_M_trace_15 : decode b_M_trace 15 = .ok (.getfield 29, 3) := by decide +kernel
theorem d_M_trace_18 : decode b_M_trace 18 = .ok (.iload_n 1, 1) := by decide +kernel
theorem d_M_trace_19 : decode b_M_trace 19 = .ok (.iaload, 1) := by decide +kernel
theorem d_M_trace_20 : decode b_M_trace 20 = .ok (.goto 4, 3) := by decide +kernel
theorem d_M_trace_23 : decode b_M_trace 23 = .ok (.iconst (-1), 1) := by decide +kernel
theorem d_M_trace_24 : decode b_M_trace 24 = .ok (.ireturn, 1) := by decide +kernel
theorem cy_M_trace : zY y_M_trace b_M_trace 2 (some (FieldType.int)) 1 := ⟨kw_815, kw_3, by decide +kernel, by decide +kernel⟩
theorem d_M_haul_0 : decode b_M_haul 0 = .ok (.iload_n 1, 1) := by decide +kernel
theorem d_M_haul_1 : decode b_M_haul 1 = .ok (.iconst 1, 1) := by decide +kernel
theorem d_M_haul_2 : decode b_M_haul 2 = .ok (.ldc 178, 2) := by decide +kernel
theorem d_M_haul_4 : decode b_M_haul 4 = .ok (.invokestatic 36, 3) := by decide +kernel
theorem d_M_haul_7 : decode b_M_haul 7 = .ok (.ifCond .ne 7, 3) := by decide +kernel
theorem d_M_haul_10 : decode b_M_haul 10 = .ok (.ldc2_w 156, 3) := by decide +kernel
theorem d_M_haul_13 : decode b_M_haul 13 = .ok (.lreturn, 1) := by decide +kernel
theorem d_M_haul_14 : decode b_M_haul 14 = .ok (.aload_n 0, 1) := by decide +kernel
theorem d_M_haul_15 : decode b_M_haul 15 = .ok (.dup, 1) := by decide +kernel
theorem d_M_haul_16 : decode b_M_haul 16 = .ok (.getfield 179, 3) := by decide +kernel
theorem d_M_haul_19 : decode b_M_haul 19 = .ok (.iload_n 1, 1) := by decide +kernel
theorem d_M_haul_20 : decode b_M_haul 20 = .ok (.i2l, 1) := by decide +kernel
theorem d_M_haul_21 : decode b_M_haul 21 = .ok (.ladd, 1) := by decide +kernel
theorem d_M_haul_22 : decode b_M_haul 22 = .ok (.putfield 179, 3) := by decide +kernel
theorem d_M_haul_25 : decode b_M_haul 25 = .ok (.aload_n 0, 1) := by decide +kernel
theorem d_M_haul_26 : decode b_M_haul 26 = .ok (.getfield 179, 3) := by decide +kernel
theorem d_M_haul_29 : decode b_M_haul 29 = .ok (.lreturn, 1) := by decide +kernel
theorem cy_M_haul : zY y_M_haul b_M_haul 2 (some (FieldType.long)) 1 := ⟨kw_819, kw_3, by decide +kernel, by decide +kernel⟩
theorem d_M_fill_0 : decode b_M_fill 0 = .ok (.aload_n 0, 1) := by decide +kernel
theorem d_M_fill_1 : decode b_M_fill 1 = .ok (.iload_n 1, 1) := by decide +kernel
theorem d_M_fill_2 : decode b_M_fill 2 = .ok (.invokevirtual 152, 3) := by decide +kernel
theorem d_M_fill_5 : decode b_M_fill 5 = .ok (.ifCond .eq 13, 3) := by decide +kernel
theorem d_M_fill_8 : decode b_M_fill 8 = .ok (.iload_n 2, 1) := by decide +kernel
theorem d_M_fill_9 : decode b_M_fill 9 = .ok (.iconst 1, 1) := by decide +kernel
theorem d_M_fill_10 : decode b_M_fill 10 = .ok (.ldc 178, 2) := by decide +kernel
theorem d_M_fill_12 : decode b_M_fill 12 = .ok (.invokestatic 36, 3) := by decide +kernel
theorem d_M_fill_15 : decode b_M_fill 15 = .ok (.ifCond .ne 5, 3) := by decide +kernel
theorem d_M_fill_18 : decode b_M_fill 18 = .ok (.iconst (-1), 1) := by decide +kernel
theorem d_M_fill_19 : decode b_M_fill 19 = .ok (.ireturn, 1) := by decide +kernel
theorem d_M_fill_20 : decode b_M_fill 20 = .ok (.aload_n 0, 1) := by decide +kernel
theorem d_M_fill_21 : decode b_M_fill 21 = .ok (.getfield 179, 3) := by decide +kernel
theorem d_M_fill_24 : decode b_M_fill 24 = .ok (.iload_n 2, 1) := by decide +kernel
theorem d_M_fill_25 : decode b_M_fill 25 = .ok (.i2l, 1) := by decide +kernel
theorem d_M_fill_26 : decode b_M_fill 26 = .ok (.lcmp, 1) := by decide +kernel
theorem d_M_fill_27 : decode b_M_fill 27 = .ok (.ifCond .ge 6, 3) := by decide +kernel
theorem d_M_fill_30 : decode b_M_fill 30 = .ok (.bipush (-3), 2) := by decide +kernel
theorem d_M_fill_32 : decode b_M_fill 32 = .ok (.ireturn, 1) := by decide +kernel
theorem d_M_fill_33 : decode b_M_fill 33 = .ok (.aload_n 0, 1) := by decide +kernel
theorem d_M_fill_34 : decode b_M_fill 34 = .ok (.getfield 19, 3) := by decide +kernel
theorem d_M_fill_37 : decode b_M_fill 37 = .ok (.iload_n 1, 1) := by decide +kernel
theorem d_M_fill_38 : decode b_M_fill 38 = .ok (.iaload, 1) := by decide +kernel
theorem d_M_fill_39 : decode b_M_fill 39 = .ok (.iload_n 2, 1) := by decide +kernel
theorem d_M_fill_40 : decode b_M_fill 40 = .ok (.iadd, 1) := by decide +kernel
theorem d_M_fill_41 : decode b_M_fill 41 = .ok (.ldc 183, 2) := by decide +kernel
theorem d_M_fill_43 : decode b_M_fill 43 = .ok (.if_icmp .le 6, 3) := by decide +kernel
theorem d_M_fill_46 : decode b_M_fill 46 = .ok (.bipush (-2), 2) := by decide +kernel
theorem d_M_fill_48 : decode b_M_fill 48 = .ok (.ireturn, 1) := by decide +kernel
theorem d_M_fill_49 : decode b_M_fill 49 = .ok (.aload_n 0, 1) := by decide +kernel
theorem d_M_fill_50 : decode b_M_fill 50 = .ok (.dup, 1) := by decide +kernel
theorem d_M_fill_51 : decode b_M_fill 51 = .ok (.getfield 179, 3) := by decide +kernel
theorem d_M_fill_54 : decode b_M_fill 54 = .ok (.iload_n 2, 1) := by decide +kernel
theorem d_M_fill_55 : decode b_M_fill 55 = .ok (.i2l, 1) := by decide +kernel
theorem d_M_fill_56 : decode b_M_fill 56 = .ok (.lsub, 1) := by decide +kernel
theorem d_M_fill_57 : decode b_M_fill 57 = .ok (.putfield 179, 3) := by decide +kernel
theorem d_M_fill_60 : decode b_M_fill 60 = .ok (.aload_n 0, 1) := by decide +kernel
theorem d_M_fill_61 : decode b_M_fill 61 = .ok (.getfield 19, 3) := by decide +kernel
theorem d_M_fill_64 : decode b_M_fill 64 = .ok (.iload_n 1, 1) := by decide +kernel
theorem d_M_fill_65 : decode b_M_fill 65 = .ok (.dup2, 1) := by decide +kernel
theorem d_M_fill_66 : decode b_M_fill 66 = .ok (.iaload, 1) := by decide +kernel
theorem d_M_fill_67 : decode b_M_fill 67 = .ok (.iload_n 2, 1) := by decide +kernel
theorem d_M_fill_68 : decode b_M_fill 68 = .ok (.iadd, 1) := by decide +kernel
theorem d_M_fill_69 : decode b_M_fill 69 = .ok (.iastore, 1) := by decide +kernel
theorem d_M_fill_70 : decode b_M_fill 70 = .ok (.aload_n 0, 1) := by decide +kernel
theorem d_M_fill_71 : decode b_M_fill 71 = .ok (.getfield 19, 3) := by decide +kernel
theorem d_M_fill_74 : decode b_M_fill 74 = .ok (.iload_n 1, 1) := by decide +kernel
theorem d_M_fill_75 : decode b_M_fill 75 = .ok (.iaload, 1) := by decide +kernel
theorem d_M_fill_76 : decode b_M_fill 76 = .ok (.ireturn, 1) := by decide +kernel
theorem cy_M_fill : zY y_M_fill b_M_fill 3 (some (FieldType.int)) 2 := ⟨kw_824, kw_3, by decide +kernel, by decide +kernel⟩
theorem d_M_light_0 : decode b_M_light 0 = .ok (.aload_n 0, 1) := by decide +kernel
theorem d_M_light_1 : decode b_M_light 1 = .ok (.iload_n 1, 1) := by decide +kernel
theorem d_M_light_2 : decode b_M_light 2 = .ok (.invokevirtual 152, 3) := by decide +kernel
theorem d_M_light_5 : decode b_M_light 5 = .ok (.ifCond .ne 5, 3) := by decide +kernel
theorem d_M_light_8 : decode b_M_light 8 = .ok (.iconst (-1), 1) := by decide +kernel
theorem d_M_light_9 : decode b_M_light 9 = .ok (.ireturn, 1) := by decide +kernel
theorem d_M_light_10 : decode b_M_light 10 = .ok (.aload_n 0, 1) := by decide +kernel
theorem d_M_light_11 : decode b_M_light 11 = .ok (.getfield 25, 3) := by decide +kernel
theorem d_M_light_14 : decode b_M_light 14 = .ok (.iload_n 1, 1) := by decide +kernel
theorem d_M_light_15 : decode b_M_light 15 = .ok (.baload, 1) := by decide +kernel
theorem d_M_light_16 : decode b_M_light 16 = .ok (.iload_n 2, 1) := by decide +kernel
theorem d_M_light_17 : decode b_M_light 17 = .ok (.if_icmp .ne 5, 3) := by decide +kernel
theorem d_M_light_20 : decode b_M_light 20 = .ok (.iconst 0, 1) := by decide +kernel
theorem d_M_light_21 : decode b_M_light 21 = .ok (.ireturn, 1) := by decide +kernel
theorem d_M_light_22 : decode b_M_light 22 = .ok (.iload_n 2, 1) := by decide +kernel
theorem d_M_light_23 : decode b_M_light 23 = .ok (.ifCond .eq 15, 3) := by decide +kernel
theorem d_M_light_26 : decode b_M_light 26 = .ok (.aload_n 0, 1) := by decide +kernel
theorem d_M_light_27 : decode b_M_light 27 = .ok (.getfield 19, 3) := by decide +kernel
theorem d_M_light_30 : decode b_M_light 30 = .ok (.iload_n 1, 1) := by decide +kernel
theorem d_M_light_31 : decode b_M_light 31 = .ok (.iaload, 1) := by decide +kernel
theorem d_M_light_32 : decode b_M_light 32 = .ok (.ifCond .ne 6, 3) := by decide +kernel
theorem d_M_light_35 : decode b_M_light 35 = .ok (.bipush (-3), 2) := by decide +kernel
theorem d_M_light_37 : decode b_M_light 37 = .ok (.ireturn, 1) := by decide +kernel
theorem d_M_light_38 : decode b_M_light 38 = .ok (.aload_n 0, 1) := by decide +kernel
theorem d_M_light_39 : decode b_M_light 39 = .ok (.getfield 25, 3) := by decide +kernel
theorem d_M_light_42 : decode b_M_light 42 = .ok (.iload_n 1, 1) := by decide +kernel
theorem d_M_light_43 : decode b_M_light 43 = .ok (.iload_n 2, 1) := by decide +kernel
theorem d_M_light_44 : decode b_M_light 44 = .ok (.bastore, 1) := by decide +kernel
theorem d_M_light_45 : decode b_M_light 45 = .ok (.iconst 1, 1) := by decide +kernel
theorem d_M_light_46 : decode b_M_light 46 = .ok (.ireturn, 1) := by decide +kernel
theorem cy_M_light : zY y_M_light b_M_light 3 (some (FieldType.int)) 2 := ⟨kw_829, kw_3, by decide +kernel, by decide +kernel⟩
theorem d_M_isAnyLit_0 : decode b_M_isAnyLit 0 = .ok (.iconst 0, 1) := by decide +kernel
theorem d_M_isAnyLit_1 : decode b_M_isAnyLit 1 = .ok (.istore_n 1, 1) := by decide +kernel
theorem d_M_isAnyLit_2 : decode b_M_isAnyLit 2 = .ok (.iconst 0, 1) := by decide +kernel
theorem d_M_isAnyLit_3 : decode b_M_isAnyLit 3 = .ok (.istore_n 2, 1) := by decide +kernel
theorem d_M_isAnyLit_4 : decode b_M_isAnyLit 4 = .ok (.iload_n 2, 1) := by decide +kernel
theorem d_M_isAnyLit_5 : decode b_M_isAnyLit 5 = .ok (.aload_n 0, 1) := by decide +kernel
theorem d_M_isAnyLit_6 : decode b_M_isAnyLit 6 = .ok (.getfield 32, 3) := by decide +kernel
theorem d_M_isAnyLit_9 : decode b_M_isAnyLit 9 = .ok (.if_icmp .ge 28, 3) := by decide +kernel
theorem d_M_isAnyLit_12 : decode b_M_isAnyLit 12 = .ok (.iload_n 1, 1) := by decide +kernel
theorem d_M_isAnyLit_13 : decode b_M_isAnyLit 13 = .ok (.ifCond .ne 12, 3) := by decide +kernel
theorem d_M_isAnyLit_16 : decode b_M_isAnyLit 16 = .ok (.aload_n 0, 1) := by decide +kernel
theorem d_M_isAnyLit_17 : decode b_M_isAnyLit 17 = .ok (.getfield 25, 3) := by decide +kernel
theorem d_M_isAnyLit_20 : decode b_M_isAnyLit 20 = .ok (.iload_n 2, 1) := by decide +kernel
theorem d_M_isAnyLit_21 : decode b_M_isAnyLit 21 = .ok (.baload, 1) := by decide +kernel
theorem d_M_isAnyLit_22 : decode b_M_isAnyLit 22 = .ok (.ifCond .eq 7, 3) := by decide +kernel
theorem d_M_isAnyLit_25 : decode b_M_isAnyLit 25 = .ok (.iconst 1, 1) := by decide +kernel
theorem d_M_isAnyLit_26 : decode b_M_isAnyLit 26 = .ok (.goto 4, 3) := by decide +kernel
theorem d_M_isAnyLit_29 : decode b_M_isAnyLit 29 = .ok (.iconst 0, 1) := by decide +kernel
theorem d_M_isAnyLit_30 : decode b_M_isAnyLit 30 = .ok (.istore_n 1, 1) := by decide +kernel
theorem d_M_isAnyLit_31 : decode b_M_isAnyLit 31 = .ok (.iinc 2 1, 3) := by decide +kernel
theorem d_M_isAnyLit_34 : decode b_M_isAnyLit 34 = .ok (.goto (-30), 3) := by decide +kernel
theorem d_M_isAnyLit_37 : decode b_M_isAnyLit 37 = .ok (.iload_n 1, 1) := by decide +kernel
theorem d_M_isAnyLit_38 : decode b_M_isAnyLit 38 = .ok (.ireturn, 1) := by decide +kernel
theorem cy_M_isAnyLit : zY y_M_isAnyLit b_M_isAnyLit 3 (some (FieldType.boolean)) 0 := ⟨kw_837, kw_3, by decide +kernel, by decide +kernel⟩
theorem d_M_night_0 : decode b_M_night 0 = .ok (.iload_n 1, 1) := by decide +kernel
theorem d_M_night_1 : decode b_M_night 1 = .ok (.iconst 1, 1) := by decide +kernel
theorem d_M_night_2 : decode b_M_night 2 = .ok (.bipush 14, 2) := by decide +kernel
theorem d_M_night_4 : decode b_M_night 4 = .ok (.invokestatic 36, 3) := by decide +kernel
theorem d_M_night_7 : decode b_M_night 7 = .ok (.ifCond .ne 5, 3) := by decide +kernel
theorem d_M_night_10 : decode b_M_night 10 = .ok (.iconst (-1), 1) := by decide +kernel
theorem d_M_night_11 : decode b_M_night 11 = .ok (.ireturn, 1) := by decide +kernel
theorem d_M_night_12 : decode b_M_night 12 = .ok (.aload_n 0, 1) := by decide +kernel
theorem d_M_night_13 : decode b_M_night 13 = .ok (.dup, 1) := by decide +kernel
theorem d_M_night_14 : decode b_M_night 14 = .ok (.getfield 184, 3) := by decide +kernel
theorem d_M_night_17 : decode b_M_night 17 = .ok (.iconst 1, 1) := by decide +kernel
theorem d_M_night_18 : decode b_M_night 18 = .ok (.iadd, 1) := by decide +kernel
theorem d_M_night_19 : decode b_M_night 19 = .ok (.putfield 184, 3) := by decide +kernel
theorem d_M_night_22 : decode b_M_night 22 = .ok (.aload_n 0, 1) := by decide +kernel
theorem d_M_night_23 : decode b_M_night 23 = .ok (.invokevirtual 187, 3) := by decide +kernel
theorem d_M_night_26 : decode b_M_night 26 = .ok (.ifCond .ne 5, 3) := by decide +kernel
theorem d_M_night_29 : decode b_M_night 29 = .ok (.iconst 0, 1) := by decide +kernel
theorem d_M_night_30 : decode b_M_night 30 = .ok (.ireturn, 1) := by decide +kernel
theorem d_M_night_31 : decode b_M_night 31 = .ok (.aload_n 0, 1) := by decide +kernel
theorem d_M_night_32 : decode b_M_night 32 = .ok (.invokevirtual 158, 3) := by decide +kernel
theorem d_M_night_35 : decode b_M_night 35 = .ok (.iconst 0, 1) := by decide +kernel
theorem d_M_night_36 : decode b_M_night 36 = .ok (.istore_n 2, 1) := by decide +kernel
theorem d_M_night_37 : decode b_M_night 37 = .ok (.iconst 0, 1) := by decide +kernel
theorem d_M_night_38 : decode b_M_night 38 = .ok (.istore_n 3, 1) := by decide +kernel
theorem d_M_night_39 : decode b_M_night 39 = .ok (.iload_n 3, 1) := by decide +kernel
theorem d_M_night_40 : decode b_M_night 40 = .ok (.aload_n 0, 1) := by decide +kernel
theorem d_M_night_41 : decode b_M_night 41 = .ok (.getfield 32, 3) := by decide +kernel
theorem d_M_night_44 : decode b_M_night 44 = .ok (.if_icmp .ge 81, 3) := by decide +kernel
theorem d_M_night_47 : decode b_M_night 47 = .ok (.aload_n 0, 1) := by decide +kernel
theorem d_M_night_48 : decode b_M_night 48 = .ok (.getfield 25, 3) := by decide +kernel
theorem d_M_night_51 : decode b_M_night 51 = .ok (.iload_n 3, 1) := by decide +kernel
theorem d_M_night_52 : decode b_M_night 52 = .ok (.baload, 1) := by decide +kernel
theorem d_M_night_53 : decode b_M_night 53 = .ok (.ifCond .eq 66, 3) := by decide +kernel
theorem d_M_night_56 : decode b_M_night 56 = .ok (.aload_n 0, 1) := by decide +kernel
theorem d_M_night_57 : decode b_M_night 57 = .ok (.iload_n 3, 1) := by decide +kernel
theorem d_M_night_58 : decode b_M_night 58 = .ok (.iload_n 1, 1) := by decide +kernel
theorem d_M_night_59 : decode b_M_night 59 = .ok (.invokevirtual 166, 3) := by decide +kernel
theorem d_M_night_62 : decode b_M_night 62 = .ok (.istore 4, 2) := by decide +kernel
theorem d_M_night_64 : decode b_M_night 64 = .ok (.iload 4, 2) := by decide +kernel
theorem d_M_night_66 : decode b_M_night 66 = .ok (.ifCond .ge 7, 3) := by decide +kernel
theorem d_M_night_69 : decode b_M_night 69 = .ok (.iconst 0, 1) := by decide +kernel
theorem d_M_night_70 : decode b_M_night 70 = .ok (.goto 5, 3) := by decide +kernel
theorem d_M_night_73 : decode b_M_night 73 = .ok (.iload 4, 2) := by decide +kernel
theorem d_M_night_75 : decode b_M_night 75 = .ok (.istore 4, 2) := by decide +kernel
theorem d_M_night_77 : decode b_M_night 77 = .ok (.aload_n 0, 1) := by decide +kernel
theorem d_M_night_78 : decode b_M_night 78 = .ok (.getfield 19, 3) := by decide +kernel
theorem d_M_night_81 : decode b_M_night 81 = .ok (.iload_n 3, 1) := by decide +kernel
theorem d_M_night_82 : decode b_M_night 82 = .ok (.iaload, 1) := by decide +kernel
theorem d_M_night_83 : decode b_M_night 83 = .ok (.iload 4, 2) := by decide +kernel
theorem d_M_night_85 : decode b_M_night 85 = .ok (.if_icmp .gt 23, 3) := by decide +kernel
theorem d_M_night_88 : decode b_M_night 88 = .ok (.aload_n 0, 1) := by decide +kernel
theorem d_M_night_89 : decode b_M_night 89 = .ok (.getfield 19, 3) := by decide +kernel
theorem d_M_night_92 : decode b_M_night 92 = .ok (.iload_n 3, 1) := by decide +kernel
theorem d_M_night_93 : decode b_M_night 93 = .ok (.iconst 0, 1) := by decide +kernel
theorem d_M_night_94 : decode b_M_night 94 = .ok (.iastore, 1) := by decide +kernel
theorem d_M_night_95 : decode b_M_night 95 = .ok (.aload_n 0, 1) := by decide +kernel
theorem d_M_night_96 : decode b_M_night 96 = .ok (.getfield 25, 3) := by decide +kernel
theorem d_M_night_99 : decode b_M_night 99 = .ok (.iload_n 3, 1) := by decide +kernel
theorem d_M_night_100 : decode b_M_night 100 = .ok (.iconst 0, 1) := by decide +kernel
theorem d_M_night_101 : decode b_M_night 101 = .ok (.bastore, 1) := by decide +kernel
theorem d_M_night_102 : decode b_M_night 102 = .ok (.iinc 2 1, 3) := by decide +kernel
theorem d_M_night_105 : decode b_M_night 105 = .ok (.goto 14, 3) := by decide +kernel
theorem d_M_night_108 : decode b_M_night 108 = .ok (.aload_n 0, 1) := by decide +kernel
theorem d_M_night_109 : decode b_M_night 109 = .ok (.getfield 19, 3) := by decide +kernel
theorem d_M_night_112 : decode b_M_night 112 = .ok (.iload_n 3, 1) := by decide +kernel
theorem d_M_night_113 : decode b_M_night 113 = .ok (.dup2, 1) := by decide +kernel
theorem d_M_night_114 : decode b_M_night 114 = .ok (.iaload, 1) := by decide +kernel
theorem d_M_night_115 : decode b_M_night 115 = .ok (.iload 4, 2) := by decide +kernel
theorem d_M_night_117 : decode b_M_night 117 = .ok (.isub, 1) := by decide +kernel
theorem d_M_night_118 : decode b_M_night 118 = .ok (.iastore, 1) := by decide +kernel
theorem d_M_night_119 : decode b_M_night 119 = .ok (.iinc 3 1, 3) := by decide +kernel
theorem d_M_night_122 : decode b_M_night 122 = .ok (.goto (-83), 3) := by decide +kernel
theorem d_M_night_125 : decode b_M_night 125 = .ok (.iload_n 2, 1) := by decide +kernel
theorem d_M_night_126 : decode b_M_night 126 = .ok (.ireturn, 1) := by decide +kernel
theorem cy_M_night : zY y_M_night b_M_night 5 (some (FieldType.int)) 1 := ⟨kw_833, kw_3, by decide +kernel, by decide +kernel⟩
theorem d_M_seen_0 : decode b_M_seen 0 = .ok (.iload_n 1, 1) := by decide +kernel
theorem d_M_seen_1 : decode b_M_seen 1 = .ok (.iconst 0, 1) := by decide +kernel
theorem d_M_seen_2 : decode b_M_seen 2 = .ok (.bipush 9, 2) := by decide +kernel
theorem d_M_seen_4 : decode b_M_seen 4 = .ok (.invokestatic 36, 3) := by decide +kernel
theorem d_M_seen_7 : decode b_M_seen 7 = .ok (.ifCond .ne 5, 3) := by decide +kernel
theorem d_M_seen_10 : decode b_M_seen 10 = .ok (.iconst (-1), 1) := by decide +kernel
theorem d_M_seen_11 : decode b_M_seen 11 = .ok (.ireturn, 1) := by decide +kernel
theorem d_M_seen_12 : decode b_M_seen 12 = .ok (.aload_n 0, 1) := by decide +kernel
theorem d_M_seen_13 : decode b_M_seen 13 = .ok (.invokevirtual 187, 3) := by decide +kernel
theorem d_M_seen_16 : decode b_M_seen 16 = .ok (.ifCond .ne 6, 3) := by decide +kernel
theorem d_M_seen_19 : decode b_M_seen 19 = .ok (.bipush (-3), 2) := by decide +kernel
theorem d_M_seen_21 : decode b_M_seen 21 = .ok (.ireturn, 1) := by decide +kernel
theorem d_M_seen_22 : decode b_M_seen 22 = .ok (.aload_n 0, 1) := by decide +kernel
theorem d_M_seen_23 : decode b_M_seen 23 = .ok (.invokevirtual 158, 3) := by decide +kernel
theorem d_M_seen_26 : decode b_M_seen 26 = .ok (.iconst (-1), 1) := by decide +kernel
theorem d_M_seen_27 : decode b_M_seen 27 = .ok (.istore_n 2, 1) := by decide +kernel
theorem d_M_seen_28 : decode b_M_seen 28 = .ok (.iconst 0, 1) := by decide +kernel
theorem d_M_seen_29 : decode b_M_seen 29 = .ok (.istore_n 3, 1) := by decide +kernel
theorem d_M_seen_30 : decode b_M_seen 30 = .ok (.iconst 0, 1) := by decide +kernel
theorem d_M_seen_31 : decode b_M_seen 31 = .ok (.istore 4, 2) := by decide +kernel
theorem d_M_seen_33 : decode b_M_seen 33 = .ok (.iload 4, 2) := by decide +kernel
theorem d_M_seen_35 : decode b_M_seen 35 = .ok (.aload_n 0, 1) := by decide +kernel
theorem d_M_seen_36 : decode b_M_seen 36 = .ok (.getfield 32, 3) := by decide +kernel
theorem d_M_seen_39 : decode b_M_seen 39 = .ok (.if_icmp .ge 45, 3) := by decide +kernel
theorem d_M_seen_42 : decode b_M_seen 42 = .ok (.aload_n 0, 1) := by decide +kernel
theorem d_M_seen_43 : decode b_M_seen 43 = .ok (.getfield 25, 3) := by decide +kernel
theorem d_M_seen_46 : decode b_M_seen 46 = .ok (.iload 4, 2) := by decide +kernel
theorem d_M_seen_48 : decode b_M_seen 48 = .ok (.baload, 1) := by decide +kernel
theorem d_M_seen_49 : decode b_M_seen 49 = .ok (.ifCond .eq 29, 3) := by decide +kernel
theorem d_M_seen_52 : decode b_M_seen 52 = .ok (.aload_n 0, 1) := by decide +kernel
theorem d_M_seen_53 : decode b_M_seen 53 = .ok (.iload 4, 2) := by decide +kernel
theorem d_M_seen_55 : decode b_M_seen 55 = .ok (.iload_n 1, 1) := by decide +kernel
theorem d_M_seen_56 : decode b_M_seen 56 = .ok (.invokevirtual 149, 3) := by decide +kernel
theorem d_M_seen_59 : decode b_M_seen 59 = .ok (.istore 5, 2) := by decide +kernel
theorem d_M_seen_61 : decode b_M_seen 61 = .ok (.iload_n 2, 1) := by decide +kernel
theorem d_M_seen_62 : decode b_M_seen 62 = .ok (.iconst (-1), 1) := by decide +kernel
theorem d_M_seen_63 : decode b_M_seen 63 = .ok (.if_icmp .eq 9, 3) := by decide +kernel
theorem d_M_seen_66 : decode b_M_seen 66 = .ok (.iload 5, 2) := by decide +kernel
theorem d_M_seen_68 : decode b_M_seen 68 = .ok (.iload_n 3, 1) := by decide +kernel
theorem d_M_seen_69 : decode b_M_seen 69 = .ok (.if_icmp .le 9, 3) := by decide +kernel
theorem d_M_seen_72 : decode b_M_seen 72 = .ok (.iload 4, 2) := by decide +kernel
theorem d_M_seen_74 : decode b_M_seen 74 = .ok (.istore_n 2, 1) := by decide +kernel
theorem d_M_seen_75 : decode b_M_seen 75 = .ok (.iload 5, 2) := by decide +kernel
theorem d_M_seen_77 : decode b_M_seen 77 = .ok (.istore_n 3, 1) := by decide +kernel
theorem d_M_seen_78 : decode b_M_seen 78 = .ok (.iinc 4 1, 3) := by decide +kernel
theorem d_M_seen_81 : decode b_M_seen 81 = .ok (.goto (-48), 3) := by decide +kernel
theorem d_M_seen_84 : decode b_M_seen 84 = .ok (.iload_n 2, 1) := by decide +kernel
theorem d_M_seen_85 : decode b_M_seen 85 = .ok (.ireturn, 1) := by decide +kernel
theorem cy_M_seen : zY y_M_seen b_M_seen 6 (some (FieldType.int)) 1 := ⟨kw_841, kw_3, by decide +kernel, by decide +kernel⟩
theorem d_M_blow_0 : decode b_M_blow 0 = .ok (.aload_n 0, 1) := by decide +kernel
theorem d_M_blow_1 : decode b_M_blow 1 = .ok (.iload_n 1, 1) := by decide +kernel
theorem d_M_blow_2 : decode b_M_blow 2 = .ok (.invokevirtual 152, 3) := by decide +kernel
theorem d_M_blow_5 : decode b_M_blow 5 = .ok (.ifCond .ne 5, 3) := by decide +kernel
theorem d_M_blow_8 : decode b_M_blow 8 = .ok (.iconst (-1), 1) := by decide +kernel
theorem d_M_blow_9 : decode b_M_blow 9 = .ok (.ireturn, 1) := by decide +kernel
theorem d_M_blow_10 : decode b_M_blow 10 = .ok (.aload_n 0, 1) := by decide +kernel
theorem d_M_blow_11 : decode b_M_blow 11 = .ok (.invokevirtual 158, 3) := by decide +kernel
theorem d_M_blow_14 : decode b_M_blow 14 = .ok (.aload_n 0, 1) := by decide +kernel
theorem d_M_blow_15 : decode b_M_blow 15 = .ok (.iload_n 1, 1) := by decide +kernel
theorem d_M_blow_16 : decode b_M_blow 16 = .ok (.invokevirtual 161, 3) := by decide +kernel
theorem d_M_blow_19 : decode b_M_blow 19 = .ok (.ifCond .ne 6, 3) := by decide +kernel
theorem d_M_blow_22 : decode b_M_blow 22 = .ok (.bipush (-4), 2) := by decide +kernel
theorem d_M_blow_24 : decode b_M_blow 24 = .ok (.ireturn, 1) := by decide +kernel
theorem d_M_blow_25 : decode b_M_blow 25 = .ok (.aload_n 0, 1) := by decide +kernel
theorem d_M_blow_26 : decode b_M_blow 26 = .ok (.aload_n 0, 1) := by decide +kernel
theorem d_M_blow_27 : decode b_M_blow 27 = .ok (.iload_n 1, 1) := by decide +kernel
theorem d_M_blow_28 : decode b_M_blow 28 = .ok (.iload_n 2, 1) := by decide +kernel
theorem d_M_blow_29 : decode b_M_blow 29 = .ok (.invokevirtual 175, 3) := by decide +kernel
theorem d_M_blow_32 : decode b_M_blow 32 = .ok (.putfield 191, 3) := by decide +kernel
theorem d_M_blow_35 : decode b_M_blow 35 = .ok (.iconst 1, 1) := by decide +kernel
theorem d_M_blow_36 : decode b_M_blow 36 = .ok (.ireturn, 1) := by decide +kernel
theorem cy_M_blow : zY y_M_blow b_M_blow 3 (some (FieldType.int)) 2 := ⟨kw_845, kw_3, by decide +kernel, by decide +kernel⟩
theorem d_M_blown_0 : decode b_M_blown 0 = .ok (.aload_n 0, 1) := by decide +kernel
theorem d_M_blown_1 : decode b_M_blown 1 = .ok (.getfield 191, 3) := by decide +kernel
theorem d_M_blown_4 : decode b_M_blown 4 = .ok (.ireturn, 1) := by decide +kernel
theorem cy_M_blown : zY y_M_blown b_M_blown 1 (some (FieldType.int)) 0 := ⟨kw_849, kw_3, by decide +kernel, by decide +kernel⟩
theorem d_M_told_0 : decode b_M_told 0 = .ok (.aload_n 0, 1) := by decide +kernel
theorem d_M_told_1 : decode b_M_told 1 = .ok (.iload_n 1, 1) := by decide +kernel
theorem d_M_told_2 : decode b_M_told 2 = .ok (.invokevirtual 152, 3) := by decide +kernel
theorem d_M_told_5 : decode b_M_told 5 = .ok (.ifCond .ne 7, 3) := by decide +kernel
theorem d_M_told_8 : decode b_M_told 8 = .ok (.ldc2_w 156, 3) := by decide +kernel
theorem d_M_told_11 : decode b_M_told 11 = .ok (.lreturn, 1) := by decide +kernel
theorem d_M_told_12 : decode b_M_told 12 = .ok (.iload_n 2, 1) := by decide +kernel
theorem d_M_told_13 : decode b_M_told 13 = .ok (.tableswitch 100 0 5 #[39, 47, 55, 63, 71, 86], 39) := by decide +kernel
theorem d_M_told_52 : decode b_M_told 52 = .ok (.aload_n 0, 1) := by decide +kernel
theorem d_M_told_53 : decode b_M_told 53 = .ok (.getfield 13, 3) := by decide +kernel
theorem d_M_told_56 : decode b_M_told 56 = .ok (.iload_n 1, 1) := by decide +kernel
theorem d_M_told_57 : decode b_M_told 57 = .ok (.iaload, 1) := by decide +kernel
theorem d_M_told_58 : decode b_M_told 58 = .ok (.i2l, 1) := by decide +kernel
theorem d_M_told_59 : decode b_M_told 59 = .ok (.lreturn, 1) := by decide +kernel
theorem d_M_told_60 : decode b_M_told 60 = .ok (.aload_n 0, 1) := by decide +kernel
theorem d_M_told_61 : decode b_M_told 61 = .ok (.getfield 16, 3) := by decide +kernel
theorem d_M_told_64 : decode b_M_told 64 = .ok (.iload_n 1, 1) := by decide +kernel
theorem d_M_told_65 : decode b_M_told 65 = .ok (.iaload, 1) := by decide +kernel
theorem d_M_told_66 : decode b_M_told 66 = .ok (.i2l, 1) := by decide +kernel
theorem d_M_told_67 : decode b_M_told 67 = .ok (.lreturn, 1) := by decide +kernel
theorem d_M_told_68 : decode b_M_told 68 = .ok (.aload_n 0, 1) := by decide +kernel
theorem d_M_told_69 : decode b_M_told 69 = .ok (.getfield 19, 3) := by decide +kernel
theorem d_M_told_72 : decode b_M_told 72 = .ok (.iload_n 1, 1) := by decide +kernel
theorem d_M_told_73 : decode b_M_told 73 = .ok (.iaload, 1) := by decide +kernel
theorem d_M_told_74 : decode b_M_told 74 = .ok (.i2l, 1) := by decide +kernel
theorem d_M_told_75 : decode b_M_told 75 = .ok (.lreturn, 1) := by decide +kernel
theorem d_M_told_76 : decode b_M_told 76 = .ok (.aload_n 0, 1) := by decide +kernel
theorem d_M_told_77 : decode b_M_told 77 = .ok (.getfield 22, 3) := by decide +kernel
theorem d_M_told_80 : decode b_M_told 80 = .ok (.iload_n 1, 1) := by decide +kernel
theorem d_M_told_81 : decode b_M_told 81 = .ok (.iaload, 1) := by decide +kernel
theorem d_M_told_82 : decode b_M_told 82 = .ok (.i2l, 1) := by decide +kernel
theorem d_M_told_83 : decode b_M_told 83 = .ok (.lreturn, 1) := by decide +kernel
theorem d_M_told_84 : decode b_M_told 84 = .ok (.aload_n 0, 1) := by decide +kernel
theorem d_M_told_85 : decode b_M_told 85 = .ok (.getfield 25, 3) := by decide +kernel
theorem d_M_told_88 : decode b_M_told 88 = .ok (.iload_n 1, 1) := by decide +kernel
theorem d_M_told_89 : decode b_M_told 89 = .ok (.baload, 1) := by decide +kernel
theorem d_M_told_90 : decode b_M_told 90 = .ok (.ifCond .eq 7, 3) := by decide +kernel
theorem d_M_told_93 : decode b_M_told 93 = .ok (.lconst 1, 1) := by decide +kernel
theorem d_M_told_94 : decode b_M_told 94 = .ok (.goto 4, 3) := by decide +kernel
theorem d_M_told_97 : decode b_M_told 97 = .ok (.lconst 0, 1) := by decide +kernel
theorem d_M_told_98 : decode b_M_told 98 = .ok (.lreturn, 1) := by decide +kernel
theorem d_M_told_99 : decode b_M_told 99 = .ok (.aload_n 0, 1) := by decide +kernel
theorem d_M_told_100 : decode b_M_told 100 = .ok (.iload_n 1, 1) := by decide +kernel
theorem d_M_told_101 : decode b_M_told 101 = .ok (.invokevirtual 161, 3) := by decide +kernel
theorem d_M_told_104 : decode b_M_told 104 = .ok (.ifCond .eq 7, 3) := by decide +kernel
theorem d_M_told_107 : decode b_M_told 107 = .ok (.lconst 1, 1) := by decide +kernel
theorem d_M_told_108 : decode b_M_told 108 = .ok (.goto 4, 3) := by decide +kernel
theorem d_M_told_111 : decode b_M_told 111 = .ok (.lconst 0, 1) := by decide +kernel
theorem d_M_told_112 : decode b_M_told 112 = .ok (.lreturn, 1) := by decide +kernel
theorem d_M_told_113 : decode b_M_told 113 = .ok (.ldc2_w 156, 3) := by decide +kernel
theorem d_M_told_116 : decode b_M_told 116 = .ok (.lreturn, 1) := by decide +kernel
theorem cy_M_told : zY y_M_told b_M_told 3 (some (FieldType.long)) 2 := ⟨kw_853, kw_3, by decide +kernel, by decide +kernel⟩
theorem d_M_count_0 : decode b_M_count 0 = .ok (.iload_n 1, 1) := by decide +kernel
theorem d_M_count_1 : decode b_M_count 1 = .ok (.ifCond .ne 10, 3) := by decide +kernel
theorem d_M_count_4 : decode b_M_count 4 = .ok (.aload_n 0, 1) := by decide +kernel
theorem d_M_count_5 : decode b_M_count 5 = .ok (.getfield 32, 3) := by decide +kernel
theorem d_M_count_8 : decode b_M_count 8 = .ok (.goto 40, 3) := by decide +kernel
theorem d_M_count_11 : decode b_M_count 11 = .ok (.iload_n 1, 1) := by decide +kernel
theorem d_M_count_12 : decode b_M_count 12 = .ok (.iconst 1, 1) := by decide +kernel
theorem d_M_count_13 : decode b_M_count 13 = .ok (.if_icmp .ne 10, 3) := by decide +kernel
theorem d_M_count_16 : decode b_M_count 16 = .ok (.aload_n 0, 1) := by decide +kernel
theorem d_M_count_17 : decode b_M_count 17 = .ok (.getfield 184, 3) := by decide +kernel
theorem d_M_count_20 : decode b_M_count 20 = .ok (.goto 28, 3) := by decide +kernel
theorem d_M_count_23 : decode b_M_count 23 = .ok (.iload_n 1, 1) := by decide +kernel
theorem d_M_count_24 : decode b_M_count 24 = .ok (.iconst 2, 1) := by decide +kernel
theorem d_M_count_25 : decode b_M_count 25 = .ok (.if_icmp .ne 10, 3) := by decide +kernel
theorem d_M_count_28 : decode b_M_count 28 = .ok (.aload_n 0, 1) := by decide +kernel
theorem d_M_count_29 : decode b_M_count 29 = .ok (.getfield 40, 3) := by decide +kernel
theorem d_M_count_32 : decode b_M_count 32 = .ok (.goto 16, 3) := by decide +kernel
theorem d_M_count_35 : decode b_M_count 35 = .ok (.iload_n 1, 1) := by decide +kernel
theorem d_M_count_36 : decode b_M_count 36 = .ok (.iconst 3, 1) := by decide +kernel
theorem d_M_count_37 : decode b_M_count 37 = .ok (.if_icmp .ne 10, 3) := by decide +kernel
theorem d_M_count_40 : decode b_M_count 40 = .ok (.aload_n 0, 1) := by decide +kernel
theorem d_M_count_41 : decode b_M_count 41 = .ok (.getfield 43, 3) := by decide +kernel
theorem d_M_count_44 : decode b_M_count 44 = .ok (.goto 4, 3) := by decide +kernel
theorem d_M_count_47 : decode b_M_count 47 = .ok (.iconst (-1), 1) := by decide +kernel
theorem d_M_count_48 : decode b_M_count 48 = .ok (.ireturn, 1) := by decide +kernel
theorem cy_M_count : zY y_M_count b_M_count 2 (some (FieldType.int)) 1 := ⟨kw_857, kw_3, by decide +kernel, by decide +kernel⟩
theorem d_M_store_0 : decode b_M_store 0 = .ok (.aload_n 0, 1) := by decide +kernel
theorem d_M_store_1 : decode b_M_store 1 = .ok (.getfield 179, 3) := by decide +kernel
theorem d_M_store_4 : decode b_M_store 4 = .ok (.lreturn, 1) := by decide +kernel
theorem cy_M_store : zY y_M_store b_M_store 1 (some (FieldType.long)) 0 := ⟨kw_861, kw_3, by decide +kernel, by decide +kernel⟩
end
section
theorem d_L_law_0 : decode code 0 = .ok (.new 7, 3) := by decide +kernel
theorem d_L_law_3 : decode code 3 = .ok (.dup, 1) := by decide +kernel
theorem d_L_law_4 : decode code 4 = .ok (.invokespecial 9, 3) := by decide +kernel
theorem d_L_law_7 : decode code 7 = .ok (.astore_n 1, 1) := by decide +kernel
theorem d_L_law_8 : decode code 8 = .ok (.new 10, 3) := by decide +kernel
theorem d_L_law_11 : decode code 11 = .ok (.dup, 1) := by decide +kernel
theorem d_L_law_12 : decode code 12 = .ok (.invokespecial 12, 3) := by decide +kernel
theorem d_L_law_15 : decode code 15 = .ok (.astore_n 2, 1) := by decide +kernel
theorem d_L_law_16 : decode code 16 = .ok (.iconst 0, 1) := by decide +kernel
theorem d_L_law_17 : decode code 17 = .ok (.istore_n 3, 1) := by decide +kernel
theorem d_L_law_18 : decode code 18 = .ok (.iload_n 3, 1) := by decide +kernel
theorem d_L_law_19 : decode code 19 = .ok (.aload_n 0, 1) := by decide +kernel
theorem d_L_law_20 : decode code 20 = .ok (.arraylength, 1) := by decide +kernel
theorem d_L_law_21 : decode code 21 = .ok (.iconst 4, 1) := by decide +kernel
theorem d_L_law_22 : decode code 22 = .ok (.isub, 1) := by decide +kernel
theorem d_L_law_23 : decode code 23 = .ok (.if_icmp .gt 489, 3) := by decide +kernel
theorem d_L_law_26 : decode code 26 = .ok (.aload_n 0, 1) := by decide +kernel
theorem d_L_law_27 : decode code 27 = .ok (.iload_n 3, 1) := by decide +kernel
theorem d_L_law_28 : decode code 28 = .ok (.iaload, 1) := by decide +kernel
theorem d_L_law_29 : decode code 29 = .ok (.bipush 15, 2) := by decide +kernel
theorem d_L_law_31 : decode code 31 = .ok (.iand, 1) := by decide +kernel
theorem d_L_law_32 : decode code 32 = .ok (.tableswitch 474 0 13 #[72, 105, 138, 182, 205, 229, 262, 311, 334, 357, 390, 403, 437, 460], 72) := by decide +kernel
theorem d_L_law_104 : decode code 104 = .ok (.aload_n 1, 1) := by decide +kernel
theorem d_L_law_105 : decode code 105 = .ok (.aload_n 0, 1) := by decide +kernel
theorem d_L_law_106 : decode code 106 = .ok (.iload_n 3, 1) := by decide +kernel
theorem d_L_law_107 : decode code 107 = .ok (.iconst 1, 1) := by decide +kernel
theorem d_L_law_108 : decode code 108 = .ok (.iadd, 1) := by decide +kernel
theorem d_L_law_109 : decode code 109 = .ok (.iaload, 1) := by decide +kernel
theorem d_L_law_110 : decode code 110 = .ok (.aload_n 0, 1) := by decide +kernel
theorem d_L_law_111 : decode code 111 = .ok (.iload_n 3, 1) := by decide +kernel
theorem d_L_law_112 : decode code 112 = .ok (.iconst 2, 1) := by decide +kernel
theorem d_L_law_113 : decode code 113 = .ok (.iadd, 1) := by decide +kernel
theorem d_L_law_114 : decode code 114 = .ok (.iaload, 1) := by decide +kernel
theorem d_L_law_115 : decode code 115 = .ok (.invokevirtual 13, 3) := by decide +kernel
theorem d_L_law_118 : decode code 118 = .ok (.aload_n 2, 1) := by decide +kernel
theorem d_L_law_119 : decode code 119 = .ok (.aload_n 0, 1) := by decide +kernel
theorem d_L_law_120 : decode code 120 = .ok (.iload_n 3, 1) := by decide +kernel
theorem d_L_law_121 : decode code 121 = .ok (.iconst 1, 1) := by decide +kernel
theorem d_L_law_122 : decode code 122 = .ok (.iadd, 1) := by decide +kernel
theorem d_L_law_123 : decode code 123 = .ok (.iaload, 1) := by decide +kernel
theorem d_L_law_124 : decode code 124 = .ok (.aload_n 0, 1) := by decide +kernel
theorem d_L_law_125 : decode code 125 = .ok (.iload_n 3, 1) := by decide +kernel
theorem d_L_law_126 : decode code 126 = .ok (.iconst 2, 1) := by decide +kernel
theorem d_L_law_127 : decode code 127 = .ok (.iadd, 1) := by decide +kernel
theorem d_L_law_128 : decode code 128 = .ok (.iaload, 1) := by decide +kernel
theorem d_L_law_129 : decode code 129 = .ok (.invokevirtual 17, 3) := by decide +kernel
theorem d_L_law_132 : decode code 132 = .ok (.if_icmp .eq 374, 3) := by decide +kernel
theorem d_L_law_135 : decode code 135 = .ok (.iconst 0, 1) := by decide +kernel
theorem d_L_law_136 : decode code 136 = .ok (.ireturn, 1) := by decide +kernel
theorem d_L_law_137 : decode code 137 = .ok (.aload_n 1, 1) := by decide +kernel
theorem d_L_law_138 : decode code 138 = .ok (.aload_n 0, 1) := by decide +kernel
theorem d_L_law_139 : decode code 139 = .ok (.iload_n 3, 1) := by decide +kernel
theorem d_L_law_140 : decode code 140 = .ok (.iconst 1, 1) := by decide +kernel
theorem d_L_law_141 : decode code 141 = .ok (.iadd, 1) := by decide +kernel
theorem d_L_law_142 : decode code 142 = .ok (.iaload, 1) := by decide +kernel
theorem d_L_law_143 : decode code 143 = .ok (.aload_n 0, 1) := by decide +kernel
theorem d_L_law_144 : decode code 144 = .ok (.iload_n 3, 1) := by decide +kernel
theorem d_L_law_145 : decode code 145 = .ok (.iconst 2, 1) := by decide +kernel
theorem d_L_law_146 : decode code 146 = .ok (.iadd, 1) := by decide +kernel
theorem d_L_law_147 : decode code 147 = .ok (.iaload, 1) := by decide +kernel
theorem d_L_law_148 : decode code 148 = .ok (.invokevirtual 18, 3) := by decide +kernel
theorem d_L_law_151 : decode code 151 = .ok (.aload_n 2, 1) := by decide +kernel
theorem d_L_law_152 : decode code 152 = .ok (.aload_n 0, 1) := by decide +kernel
theorem d_L_law_153 : decode code 153 = .ok (.iload_n 3, 1) := by decide +kernel
theorem d_L_law_154 : decode code 154 = .ok (.iconst 1, 1) := by decide +kernel
theorem d_L_law_155 : decode code 155 = .ok (.iadd, 1) := by decide +kernel
theorem d_L_law_156 : decode code 156 = .ok (.iaload, 1) := by decide +kernel
theorem d_L_law_157 : decode code 157 = .ok (.aload_n 0, 1) := by decide +kernel
theorem d_L_law_158 : decode code 158 = .ok (.iload_n 3, 1) := by decide +kernel
theorem d_L_law_159 : decode code 159 = .ok (.iconst 2, 1) := by decide +kernel
theorem d_L_law_160 : decode code 160 = .ok (.iadd, 1) := by decide +kernel
theorem d_L_law_161 : decode code 161 = .ok (.iaload, 1) := by decide +kernel
theorem d_L_law_162 : decode code 162 = .ok (.invokevirtual 21, 3) := by decide +kernel
theorem d_L_law_165 : decode code 165 = .ok (.if_icmp .eq 341, 3) := by decide +kernel
theorem d_L_law_168 : decode code 168 = .ok (.iconst 0, 1) := by decide +kernel
theorem d_L_law_169 : decode code 169 = .ok (.ireturn, 1) := by decide +kernel
theorem d_L_law_170 : decode code 170 = .ok (.aload_n 1, 1) := by decide +kernel
theorem d_L_law_171 : decode code 171 = .ok (.aload_n 0, 1) := by decide +kernel
theorem d_L_law_172 : decode code 172 = .ok (.iload_n 3, 1) := by decide +kernel
theorem d_L_law_173 : decode code 173 = .ok (.iconst 1, 1) := by decide +kernel
theorem d_L_law_174 : decode code 174 = .ok (.iadd, 1) := by decide +kernel
theorem d_L_law_175 : decode code 175 = .ok (.iaload, 1) := by decide +kernel
theorem d_L_law_176 : decode code 176 = .ok (.aload_n 0, 1) := by decide +kernel
theorem d_L_law_177 : decode code 177 = .ok (.iload_n 3, 1) := by decide +kernel
theorem d_L_law_178 : decode code 178 = .ok (.iconst 2, 1) := by decide +kernel
theorem d_L_law_179 : decode code 179 = .ok (.iadd, 1) := by decide +kernel
theorem d_L_law_180 : decode code 180 = .ok (.iaload, 1) := by decide +kernel
theorem d_L_law_181 : decode code 181 = .ok (.aload_n 0, 1) := by decide +kernel
theorem d_L_law_182 : decode code 182 = .ok (.iload_n 3, 1) := by decide +kernel
theorem d_L_law_183 : decode code 183 = .ok (.iconst 3, 1) := by decide +kernel
theorem d_L_law_184 : decode code 184 = .ok (.iadd, 1) := by decide +kernel
theorem d_L_law_185 : decode code 185 = .ok (.iaload, 1) := by decide +kernel
theorem d_L_law_186 : decode code 186 = .ok (.invokevirtual 22, 3) := by decide +kernel
theorem d_L_law_189 : decode code 189 = .ok (.aload_n 2, 1) := by decide +kernel
theorem d_L_law_190 : decode code 190 = .ok (.aload_n 0, 1) := by decide +kernel
theorem d_L_law_191 : decode code 191 = .ok (.iload_n 3, 1) := by decide +kernel
theorem d_L_law_192 : decode code 192 = .ok (.iconst 1, 1) := by decide +kernel
theorem d_L_law_193 : decode code 193 = .ok (.iadd, 1) := by decide +kernel
theorem d_L_law_194 : decode code 194 = .ok (.iaload, 1) := by decide +kernel
theorem d_L_law_195 : decode code 195 = .ok (.aload_n 0, 1) := by decide +kernel
theorem d_L_law_196 : decode code 196 = .ok (.iload_n 3, 1) := by decide +kernel
theorem d_L_law_197 : decode code 197 = .ok (.iconst 2, 1) := by decide +kernel
theorem d_L_law_198 : decode code 198 = .ok (.iadd, 1) := by decide +kernel
theorem d_L_law_199 : decode code 199 = .ok (.iaload, 1) := by decide +kernel
theorem d_L_law_200 : decode code 200 = .ok (.aload_n 0, 1) := by decide +kernel
theorem d_L_law_201 : decode code 201 = .ok (.iload_n 3, 1) := by decide +kernel
theorem d_L_law_202 : decode code 202 = .ok (.iconst 3, 1) := by decide +kernel
theorem d_L_law_203 : decode code 203 = .ok (.iadd, 1) := by decide +kernel
theorem d_L_law_204 : decode code 204 = .ok (.iaload, 1) := by decide +kernel
theorem d_L_law_205 : decode code 205 = .ok (.invokevirtual 26, 3) := by decide +kernel
theorem d_L_law_208 : decode code 208 = .ok (.lcmp, 1) := by decide +kernel
theorem d_L_law_209 : decode code 209 = .ok (.ifCond .eq 297, 3) := by decide +kernel
theorem d_L_law_212 : decode code 212 = .ok (.iconst 0, 1) := by decide +kernel
theorem d_L_law_213 : decode code 213 = .ok (.ireturn, 1) := by decide +kernel
theorem d_L_law_214 : decode code 214 = .ok (.aload_n 1, 1) := by decide +kernel
theorem d_L_law_215 : decode code 215 = .ok (.aload_n 0, 1) := by decide +kernel
theorem d_L_law_216 : decode code 216 = .ok (.iload_n 3, 1) := by decide +kernel
theorem d_L_law_217 : decode code 217 = .ok (.iconst 1, 1) := by decide +kernel
theorem d_L_law_218 : decode code 218 = .ok (.iadd, 1) := by decide +kernel
theorem d_L_law_219 : decode code 219 = .ok (.iaload, 1) := by decide +kernel
theorem d_L_law_220 : decode code 220 = .ok (.invokevirtual 27, 3) := by decide +kernel
theorem d_L_law_223 : decode code 223 = .ok (.aload_n 2, 1) := by decide +kernel
theorem d_L_law_224 : decode code 224 = .ok (.aload_n 0, 1) := by decide +kernel
theorem d_L_law_225 : decode code 225 = .ok (.iload_n 3, 1) := by decide +kernel
theorem d_L_law_226 : decode code 226 = .ok (.iconst 1, 1) := by decide +kernel
theorem d_L_law_227 : decode code 227 = .ok (.iadd, 1) := by decide +kernel
theorem d_L_law_228 : decode code 228 = .ok (.iaload, 1) := by decide +kernel
theorem d_L_law_229 : decode code 229 = .ok (.invokevirtual 31, 3) := by decide +kernel
theorem d_L_law_232 : decode code 232 = .ok (.if_icmp .eq 274, 3) := by decide +kernel
theorem d_L_law_235 : decode code 235 = .ok (.iconst 0, 1) := by decide +kernel
theorem d_L_law_236 : decode code 236 = .ok (.ireturn, 1) := by decide +kernel
theorem d_L_law_237 : decode code 237 = .ok (.aload_n 1, 1) := by decide +kernel
theorem d_L_law_238 : decode code 238 = .ok (.aload_n 0, 1) := by decide +kernel
theorem d_L_law_239 : decode code 239 = .ok (.iload_n 3, 1) := by decide +kernel
theorem d_L_law_240 : decode code 240 = .ok (.iconst 1, 1) := by decide +kernel
theorem d_L_law_241 : decode code 241 = .ok (.iadd, 1) := by decide +kernel
theorem d_L_law_242 : decode code 242 = .ok (.iaload, 1) := by decide +kernel
theorem d_L_law_243 : decode code 243 = .ok (.invokevirtual 32, 3) := by decide +kernel
theorem d_L_law_246 : decode code 246 = .ok (.aload_n 2, 1) := by decide +kernel
theorem d_L_law_247 : decode code 247 = .ok (.aload_n 0, 1) := by decide +kernel
theorem d_L_law_248 : decode code 248 = .ok (.iload_n 3, 1) := by decide +kernel
theorem d_L_law_249 : decode code 249 = .ok (.iconst 1, 1) := by decide +kernel
theorem d_L_law_250 : decode code 250 = .ok (.iadd, 1) := by decide +kernel
theorem d_L_law_251 : decode code 251 = .ok (.iaload, 1) := by decide +kernel
theorem d_L_law_252 : decode code 252 = .ok (.invokevirtual 36, 3) := by decide +kernel
theorem d_L_law_255 : decode code 255 = .ok (.lcmp, 1) := by decide +kernel
theorem d_L_law_256 : decode code 256 = .ok (.ifCond .eq 250, 3) := by decide +kernel
theorem d_L_law_259 : decode code 259 = .ok (.iconst 0, 1) := by decide +kernel
theorem d_L_law_260 : decode code 260 = .ok (.ireturn, 1) := by decide +kernel
theorem d_L_law_261 : decode code 261 = .ok (.aload_n 1, 1) := by decide +kernel
theorem d_L_law_262 : decode code 262 = .ok (.aload_n 0, 1) := by decide +kernel
theorem d_L_law_263 : decode code 263 = .ok (.iload_n 3, 1) := by decide +kernel
theorem d_L_law_264 : decode code 264 = .ok (.iconst 1, 1) := by decide +kernel
theorem d_L_law_265 : decode code 265 = .ok (.iadd, 1) := by decide +kernel
theorem d_L_law_266 : decode code 266 = .ok (.iaload, 1) := by decide +kernel
theorem d_L_law_267 : decode code 267 = .ok (.aload_n 0, 1) := by decide +kernel
theorem d_L_law_268 : decode code 268 = .ok (.iload_n 3, 1) := by decide +kernel
theorem d_L_law_269 : decode code 269 = .ok (.iconst 2, 1) := by decide +kernel
theorem d_L_law_270 : decode code 270 = .ok (.iadd, 1) := by decide +kernel
theorem d_L_law_271 : decode code 271 = .ok (.iaload, 1) := by decide +kernel
theorem d_L_law_272 : decode code 272 = .ok (.invokevirtual 37, 3) := by decide +kernel
theorem d_L_law_275 : decode code 275 = .ok (.aload_n 2, 1) := by decide +kernel
theorem d_L_law_276 : decode code 276 = .ok (.aload_n 0, 1) := by decide +kernel
theorem d_L_law_277 : decode code 277 = .ok (.iload_n 3, 1) := by decide +kernel
theorem d_L_law_278 : decode code 278 = .ok (.iconst 1, 1) := by decide +kernel
theorem d_L_law_279 : decode code 279 = .ok (.iadd, 1) := by decide +kernel
theorem d_L_law_280 : decode code 280 = .ok (.iaload, 1) := by decide +kernel
theorem d_L_law_281 : decode code 281 = .ok (.aload_n 0, 1) := by decide +kernel
theorem d_L_law_282 : decode code 282 = .ok (.iload_n 3, 1) := by decide +kernel
theorem d_L_law_283 : decode code 283 = .ok (.iconst 2, 1) := by decide +kernel
theorem d_L_law_284 : decode code 284 = .ok (.iadd, 1) := by decide +kernel
theorem d_L_law_285 : decode code 285 = .ok (.iaload, 1) := by decide +kernel
theorem d_L_law_286 : decode code 286 = .ok (.invokevirtual 40, 3) := by decide +kernel
theorem d_L_law_289 : decode code 289 = .ok (.if_icmp .eq 217, 3) := by decide +kernel
theorem d_L_law_292 : decode code 292 = .ok (.iconst 0, 1) := by decide +kernel
theorem d_L_law_293 : decode code 293 = .ok (.ireturn, 1) := by decide +kernel
theorem d_L_law_294 : decode code 294 = .ok (.aload_n 1, 1) := by decide +kernel
theorem d_L_law_295 : decode code 295 = .ok (.aload_n 0, 1) := by decide +kernel
theorem d_L_law_296 : decode code 296 = .ok (.iload_n 3, 1) := by decide +kernel
theorem d_L_law_297 : decode code 297 = .ok (.iconst 1, 1) := by decide +kernel
theorem d_L_law_298 : decode code 298 = .ok (.iadd, 1) := by decide +kernel
theorem d_L_law_299 : decode code 299 = .ok (.iaload, 1) := by decide +kernel
theorem d_L_law_300 : decode code 300 = .ok (.aload_n 0, 1) := by decide +kernel
theorem d_L_law_301 : decode code 301 = .ok (.iload_n 3, 1) := by decide +kernel
theorem d_L_law_302 : decode code 302 = .ok (.iconst 2, 1) := by decide +kernel
theorem d_L_law_303 : decode code 303 = .ok (.iadd, 1) := by decide +kernel
theorem d_L_law_304 : decode code 304 = .ok (.iaload, 1) := by decide +kernel
theorem d_L_law_305 : decode code 305 = .ok (.ifCond .eq 7, 3) := by decide +kernel
theorem d_L_law_308 : decode code 308 = .ok (.iconst 1, 1) := by decide +kernel
theorem d_L_law_309 : decode code 309 = .ok (.goto 4, 3) := by decide +kernel
theorem d_L_law_312 : decode code 312 = .ok (.iconst 0, 1) := by decide +kernel
theorem d_L_law_313 : decode code 313 = .ok (.invokevirtual 41, 3) := by decide +kernel
theorem d_L_law_316 : decode code 316 = .ok (.aload_n 2, 1) := by decide +kernel
theorem d_L_law_317 : decode code 317 = .ok (.aload_n 0, 1) := by decide +kernel
theorem d_L_law_318 : decode code 318 = .ok (.iload_n 3, 1) := by decide +kernel
theorem d_L_law_319 : decode code 319 = .ok (.iconst 1, 1) := by decide +kernel
theorem d_L_law_320 : decode code 320 = .ok (.iadd, 1) := by decide +kernel
theorem d_L_law_321 : decode code 321 = .ok (.iaload, 1) := by decide +kernel
theorem d_L_law_322 : decode code 322 = .ok (.aload_n 0, 1) := by decide +kernel
theorem d_L_law_323 : decode code 323 = .ok (.iload_n 3, 1) := by decide +kernel
theorem d_L_law_324 : decode code 324 = .ok (.iconst 2, 1) := by decide +kernel
theorem d_L_law_325 : decode code 325 = .ok (.iadd, 1) := by decide +kernel
theorem d_L_law_326 : decode code 326 = .ok (.iaload, 1) := by decide +kernel
theorem d_L_law_327 : decode code 327 = .ok (.ifCond .eq 7, 3) := by decide +kernel
theorem d_L_law_330 : decode code 330 = .ok (.iconst 1, 1) := by decide +kernel
theorem d_L_law_331 : decode code 331 = .ok (.goto 4, 3) := by decide +kernel
theorem d_L_law_334 : decode code 334 = .ok (.iconst 0, 1) := by decide +kernel
theorem d_L_law_335 : decode code 335 = .ok (.invokevirtual 45, 3) := by decide +kernel
theorem d_L_law_338 : decode code 338 = .ok (.if_icmp .eq 168, 3) := by decide +kernel
theorem d_L_law_341 : decode code 341 = .ok (.iconst 0, 1) := by decide +kernel
theorem d_L_law_342 : decode code 342 = .ok (.ireturn, 1) := by decide +kernel
theorem d_L_law_343 : decode code 343 = .ok (.aload_n 1, 1) := by decide +kernel
theorem d_L_law_344 : decode code 344 = .ok (.aload_n 0, 1) := by decide +kernel
theorem d_L_law_345 : decode code 345 = .ok (.iload_n 3, 1) := by decide +kernel
theorem d_L_law_346 : decode code 346 = .ok (.iconst 1, 1) := by decide +kernel
theorem d_L_law_347 : decode code 347 = .ok (.iadd, 1) := by decide +kernel
theorem d_L_law_348 : decode code 348 = .ok (.iaload, 1) := by decide +kernel
theorem d_L_law_349 : decode code 349 = .ok (.invokevirtual 46, 3) := by decide +kernel
theorem d_L_law_352 : decode code 352 = .ok (.aload_n 2, 1) := by decide +kernel
theorem d_L_law_353 : decode code 353 = .ok (.aload_n 0, 1) := by decide +kernel
theorem d_L_law_354 : decode code 354 = .ok (.iload_n 3, 1) := by decide +kernel
theorem d_L_law_355 : decode code 355 = .ok (.iconst 1, 1) := by decide +kernel
theorem d_L_law_356 : decode code 356 = .ok (.iadd, 1) := by decide +kernel
theorem d_L_law_357 : decode code 357 = .ok (.iaload, 1) := by decide +kernel
theorem d_L_law_358 : decode code 358 = .ok (.invokevirtual 49, 3) := by decide +kernel
theorem d_L_law_361 : decode code 361 = .ok (.if_icmp .eq 145, 3) := by decide +kernel
theorem d_L_law_364 : decode code 364 = .ok (.iconst 0, 1) := by decide +kernel
theorem d_L_law_365 : decode code 365 = .ok (.ireturn, 1) := by decide +kernel
theorem d_L_law_366 : decode code 366 = .ok (.aload_n 1, 1) := by decide +kernel
theorem d_L_law_367 : decode code 367 = .ok (.aload_n 0, 1) := by decide +kernel
theorem d_L_law_368 : decode code 368 = .ok (.iload_n 3, 1) := by decide +kernel
theorem d_L_law_369 : decode code 369 = .ok (.iconst 1, 1) := by decide +kernel
theorem d_L_law_370 : decode code 370 = .ok (.iadd, 1) := by decide +kernel
theorem d_L_law_371 : decode code 371 = .ok (.iaload, 1) := by decide +kernel
theorem d_L_law_372 : decode code 372 = .ok (.invokevirtual 50, 3) := by decide +kernel
theorem d_L_law_375 : decode code 375 = .ok (.aload_n 2, 1) := by decide +kernel
theorem d_L_law_376 : decode code 376 = .ok (.aload_n 0, 1) := by decide +kernel
theorem d_L_law_377 : decode code 377 = .ok (.iload_n 3, 1) := by decide +kernel
theorem d_L_law_378 : decode code 378 = .ok (.iconst 1, 1) := by decide +kernel
theorem d_L_law_379 : decode code 379 = .ok (.iadd, 1) := by decide +kernel
theorem d_L_law_380 : decode code 380 = .ok (.iaload, 1) := by decide +kernel
theorem d_L_law_381 : decode code 381 = .ok (.invokevirtual 53, 3) := by decide +kernel
theorem d_L_law_384 : decode code 384 = .ok (.if_icmp .eq 122, 3) := by decide +kernel
theorem d_L_law_387 : decode code 387 = .ok (.iconst 0, 1) := by decide +kernel
theorem d_L_law_388 : decode code 388 = .ok (.ireturn, 1) := by decide +kernel
theorem d_L_law_389 : decode code 389 = .ok (.aload_n 1, 1) := by decide +kernel
theorem d_L_law_390 : decode code 390 = .ok (.aload_n 0, 1) := by decide +kernel
theorem d_L_law_391 : decode code 391 = .ok (.iload_n 3, 1) := by decide +kernel
theorem d_L_law_392 : decode code 392 = .ok (.iconst 1, 1) := by decide +kernel
theorem d_L_law_393 : decode code 393 = .ok (.iadd, 1) := by decide +kernel
theorem d_L_law_394 : decode code 394 = .ok (.iaload, 1) := by decide +kernel
theorem d_L_law_395 : decode code 395 = .ok (.aload_n 0, 1) := by decide +kernel
theorem d_L_law_396 : decode code 396 = .ok (.iload_n 3, 1) := by decide +kernel
theorem d_L_law_397 : decode code 397 = .ok (.iconst 2, 1) := by decide +kernel
theorem d_L_law_398 : decode code 398 = .ok (.iadd, 1) := by decide +kernel
theorem d_L_law_399 : decode code 399 = .ok (.iaload, 1) := by decide +kernel
theorem d_L_law_400 : decode code 400 = .ok (.invokevirtual 54, 3) := by decide +kernel
theorem d_L_law_403 : decode code 403 = .ok (.aload_n 2, 1) := by decide +kernel
theorem d_L_law_404 : decode code 404 = .ok (.aload_n 0, 1) := by decide +kernel
theorem d_L_law_405 : decode code 405 = .ok (.iload_n 3, 1) := by decide +kernel
theorem d_L_law_406 : decode code 406 = .ok (.iconst 1, 1) := by decide +kernel
theorem d_L_law_407 : decode code 407 = .ok (.iadd, 1) := by decide +kernel
theorem d_L_law_408 : decode code 408 = .ok (.iaload, 1) := by decide +kernel
theorem d_L_law_409 : decode code 409 = .ok (.aload_n 0, 1) := by decide +kernel
theorem d_L_law_410 : decode code 410 = .ok (.iload_n 3, 1) := by decide +kernel
theorem d_L_law_411 : decode code 411 = .ok (.iconst 2, 1) := by decide +kernel
theorem d_L_law_412 : decode code 412 = .ok (.iadd, 1) := by decide +kernel
theorem d_L_law_413 : decode code 413 = .ok (.iaload, 1) := by decide +kernel
theorem d_L_law_414 : decode code 414 = .ok (.invokevirtual 57, 3) := by decide +kernel
theorem d_L_law_417 : decode code 417 = .ok (.if_icmp .eq 89, 3) := by decide +kernel
theorem d_L_law_420 : decode code 420 = .ok (.iconst 0, 1) := by decide +kernel
theorem d_L_law_421 : decode code 421 = .ok (.ireturn, 1) := by decide +kernel
theorem d_L_law_422 : decode code 422 = .ok (.aload_n 1, 1) := by decide +kernel
theorem d_L_law_423 : decode code 423 = .ok (.invokevirtual 58, 3) := by decide +kernel
theorem d_L_law_426 : decode code 426 = .ok (.aload_n 2, 1) := by decide +kernel
theorem d_L_law_427 : decode code 427 = .ok (.invokevirtual 62, 3) := by decide +kernel
theorem d_L_law_430 : decode code 430 = .ok (.if_icmp .eq 76, 3) := by decide +kernel
theorem d_L_law_433 : decode code 433 = .ok (.iconst 0, 1) := by decide +kernel
theorem d_L_law_434 : decode code 434 = .ok (.ireturn, 1) := by decide +kernel
theorem d_L_law_435 : decode code 435 = .ok (.aload_n 1, 1) := by decide +kernel
theorem d_L_law_436 : decode code 436 = .ok (.aload_n 0, 1) := by decide +kernel
theorem d_L_law_437 : decode code 437 = .ok (.iload_n 3, 1) := by decide +kernel
theorem d_L_law_438 : decode code 438 = .ok (.iconst 1, 1) := by decide +kernel
theorem d_L_law_439 : decode code 439 = .ok (.iadd, 1) := by decide +kernel
theorem d_L_law_440 : decode code 440 = .ok (.iaload, 1) := by decide +kernel
theorem d_L_law_441 : decode code 441 = .ok (.aload_n 0, 1) := by decide +kernel
theorem d_L_law_442 : decode code 442 = .ok (.iload_n 3, 1) := by decide +kernel
theorem d_L_law_443 : decode code 443 = .ok (.iconst 2, 1) := by decide +kernel
theorem d_L_law_444 : decode code 444 = .ok (.iadd, 1) := by decide +kernel
theorem d_L_law_445 : decode code 445 = .ok (.iaload, 1) := by decide +kernel
theorem d_L_law_446 : decode code 446 = .ok (.invokevirtual 63, 3) := by decide +kernel
theorem d_L_law_449 : decode code 449 = .ok (.aload_n 2, 1) := by decide +kernel
theorem d_L_law_450 : decode code 450 = .ok (.aload_n 0, 1) := by decide +kernel
theorem d_L_law_451 : decode code 451 = .ok (.iload_n 3, 1) := by decide +kernel
theorem d_L_law_452 : decode code 452 = .ok (.iconst 1, 1) := by decide +kernel
theorem d_L_law_453 : decode code 453 = .ok (.iadd, 1) := by decide +kernel
theorem d_L_law_454 : decode code 454 = .ok (.iaload, 1) := by decide +kernel
theorem d_L_law_455 : decode code 455 = .ok (.aload_n 0, 1) := by decide +kernel
theorem d_L_law_456 : decode code 456 = .ok (.iload_n 3, 1) := by decide +kernel
theorem d_L_law_457 : decode code 457 = .ok (.iconst 2, 1) := by decide +kernel
theorem d_L_law_458 : decode code 458 = .ok (.iadd, 1) := by decide +kernel
theorem d_L_law_459 : decode code 459 = .ok (.iaload, 1) := by decide +kernel
theorem d_L_law_460 : decode code 460 = .ok (.invokevirtual 67, 3) := by decide +kernel
theorem d_L_law_463 : decode code 463 = .ok (.lcmp, 1) := by decide +kernel
theorem d_L_law_464 : decode code 464 = .ok (.ifCond .eq 42, 3) := by decide +kernel
theorem d_L_law_467 : decode code 467 = .ok (.iconst 0, 1) := by decide +kernel
theorem d_L_law_468 : decode code 468 = .ok (.ireturn, 1) := by decide +kernel
theorem d_L_law_469 : decode code 469 = .ok (.aload_n 1, 1) := by decide +kernel
theorem d_L_law_470 : decode code 470 = .ok (.aload_n 0, 1) := by decide +kernel
theorem d_L_law_471 : decode code 471 = .ok (.iload_n 3, 1) := by decide +kernel
theorem d_L_law_472 : decode code 472 = .ok (.iconst 1, 1) := by decide +kernel
theorem d_L_law_473 : decode code 473 = .ok (.iadd, 1) := by decide +kernel
theorem d_L_law_474 : decode code 474 = .ok (.iaload, 1) := by decide +kernel
theorem d_L_law_475 : decode code 475 = .ok (.invokevirtual 68, 3) := by decide +kernel
theorem d_L_law_478 : decode code 478 = .ok (.aload_n 2, 1) := by decide +kernel
theorem d_L_law_479 : decode code 479 = .ok (.aload_n 0, 1) := by decide +kernel
theorem d_L_law_480 : decode code 480 = .ok (.iload_n 3, 1) := by decide +kernel
theorem d_L_law_481 : decode code 481 = .ok (.iconst 1, 1) := by decide +kernel
theorem d_L_law_482 : decode code 482 = .ok (.iadd, 1) := by decide +kernel
theorem d_L_law_483 : decode code 483 = .ok (.iaload, 1) := by decide +kernel
theorem d_L_law_484 : decode code 484 = .ok (.invokevirtual 71, 3) := by decide +kernel
theorem d_L_law_487 : decode code 487 = .ok (.if_icmp .eq 19, 3) := by decide +kernel
theorem d_L_law_490 : decode code 490 = .ok (.iconst 0, 1) := by decide +kernel
theorem d_L_law_491 : decode code 491 = .ok (.ireturn, 1) := by decide +kernel
theorem d_L_law_492 : decode code 492 = .ok (.aload_n 1, 1) := by decide +kernel
theorem d_L_law_493 : decode code 493 = .ok (.invokevirtual 72, 3) := by decide +kernel
theorem d_L_law_496 : decode code 496 = .ok (.aload_n 2, 1) := by decide +kernel
theorem d_L_law_497 : decode code 497 = .ok (.invokevirtual 76, 3) := by decide +kernel
theorem d_L_law_500 : decode code 500 = .ok (.lcmp, 1) := by decide +kernel
theorem d_L_law_501 : decode code 501 = .ok (.ifCond .eq 5, 3) := by decide +kernel
theorem d_L_law_504 : decode code 504 = .ok (.iconst 0, 1) := by decide +kernel
theorem d_L_law_505 : decode code 505 = .ok (.ireturn, 1) := by decide +kernel
theorem d_L_law_506 : decode code 506 = .ok (.iinc 3 4, 3) := by decide +kernel
theorem d_L_law_509 : decode code 509 = .ok (.goto (-491), 3) := by decide +kernel
theorem d_L_law_512 : decode code 512 = .ok (.iconst 1, 1) := by decide +kernel
theorem d_L_law_513 : decode code 513 = .ok (.ireturn, 1) := by decide +kernel
end
section
set_option maxHeartbeats 4000000 in
set_option maxRecDepth 100000 in
theorem c_Coast_begins (l : Launch) (dC : Nat → ClassId) (dI : Nat → Nat → Nat) (c1 c2 c3 : ClassId) (A : Nat → Prop) (aC aD aE : Nat) (d : Nat → Int32) (rest : va_W) (t : zT) (kd mb x : Int32) (hx0 : 10 * kd + mb = x) : zM l y_Coast_begins b_Coast_begins 3 none 0 0 [.ref aC, .int kd, .int mb] (dC, dI) (t3 c1 c2 c3) A (wc c1 c2 aC aD aE d rest t) (wc c1 c2 aC aD aE d rest (tb x t)) none := by
  subst hx0
  by_cases h1 : t.2.1 < 1000
  · have e9 : tb (10 * kd + mb) t = (upd t.1 t.2.1 (10 * kd + mb), ⟨t.2.1 + 1, h1⟩) := by unfold tb; rw [dif_pos h1]
    rw [e9]
    refine zM_of "CoastLamps$Coast" rfl (by decide) (Nat.le_of_ble_eq_true rfl) ?_
    intro p e s m below meth c ls E hP hK hD hS hl
    obtain ⟨hx, hb, hml, ho, hts, hr, hlk⟩ := id E
    have hl : lv_has ls 3 [(0, .ref aC), (1, .int kd), (2, .int mb)] := hl
    refine lv_aload_n hx hb d_Coast_begins_0 rfl (lv_at hl 0 rfl) ?_
    refine zget (ci := 9) (fs := [.ref aD, .ref aE, .int (nI t.2.1)]) E hK hP 0 rfl zC_Coast 2 (by decide) kw_31 (Or.inl rfl) rfl d_Coast_begins_1 ?_
    refine lv_if_lt (tgt := 44) hx hb d_Coast_begins_4 (by decide) (fun h9 => absurd h9 (nI_pos (nI_w t))) (fun _ => ?_)
    refine lv_aload_n hx hb d_Coast_begins_7 rfl (lv_at hl 0 rfl) ?_
    refine zget (ci := 9) (fs := [.ref aD, .ref aE, .int (nI t.2.1)]) E hK hP 0 rfl zC_Coast 2 (by decide) kw_31 (Or.inl rfl) rfl d_Coast_begins_8 ?_
    refine lv_aload_n hx hb d_Coast_begins_11 rfl (lv_at hl 0 rfl) ?_
    refine zget (ci := 9) (fs := [.ref aD, .ref aE, .int (nI t.2.1)]) E hK hP 0 rfl zC_Coast 1 (by decide) kw_30 (Or.inl rfl) rfl d_Coast_begins_12 ?_
    refine va_alen (x := (1000, .inl (t.1))) hx hb hK hP 2 1 rfl rfl (v := nI 1000) rfl d_Coast_begins_15 ?_
    refine lv_icmp_ge (tgt := 44) hx hb d_Coast_begins_16 (by decide) (fun h9 => absurd h9 (nI_ge h1 (by decide))) (fun _ => ?_)
    refine lv_aload_n hx hb d_Coast_begins_19 rfl (lv_at hl 0 rfl) ?_
    refine zget (ci := 9) (fs := [.ref aD, .ref aE, .int (nI t.2.1)]) E hK hP 0 rfl zC_Coast 1 (by decide) kw_30 (Or.inl rfl) rfl d_Coast_begins_20 ?_
    refine lv_aload_n hx hb d_Coast_begins_23 rfl (lv_at hl 0 rfl) ?_
    refine zget (ci := 9) (fs := [.ref aD, .ref aE, .int (nI t.2.1)]) E hK hP 0 rfl zC_Coast 2 (by decide) kw_31 (Or.inl rfl) rfl d_Coast_begins_24 ?_
    refine lv_bipush (v := 10) hx hb d_Coast_begins_27 (by decide) ?_
    refine lv_iload_n hx hb d_Coast_begins_29 rfl (lv_at hl 1 rfl) ?_
    refine lv_imul hx hb d_Coast_begins_30 ?_
    refine lv_iload_n hx hb d_Coast_begins_31 rfl (lv_at hl 2 rfl) ?_
    refine lv_iadd hx hb d_Coast_begins_32 ?_
    refine va_iast hx hb hK hP hD hS 2 1 rfl rfl (vp_in_nI h1 (by decide)) d_Coast_begins_33 (fun H locs hP hD hS => ?_)
    rw [nI_clamp (nI_w t)] at hP hD
    have hP : va_P (dC, dI) classes ((aC, .inr (9, [.ref aD, .ref aE, .int (nI t.2.1)])) :: (aD, .inl (c1, 8, .inl (d))) :: (aE, .inl (c2, 1000, .inl (upd (t.1) (t.2.1) ((10 * kd) + mb)))) :: rest) H := hP
    have hD : va_D A ((aC, .inr (9, [.ref aD, .ref aE, .int (nI t.2.1)])) :: (aD, .inl (c1, 8, .inl (d))) :: (aE, .inl (c2, 1000, .inl (upd (t.1) (t.2.1) ((10 * kd) + mb)))) :: rest) := hD
    refine lv_aload_n hx hb d_Coast_begins_34 rfl (lv_at hl 0 rfl) ?_
    refine lv_dup hx hb d_Coast_begins_35 rfl ?_
    refine zget (ci := 9) (fs := [.ref aD, .ref aE, .int (nI t.2.1)]) E hK hP 0 rfl zC_Coast 2 (by decide) kw_31 (Or.inl rfl) rfl d_Coast_begins_36 ?_
    refine lv_iconst (v := 1) hx hb d_Coast_begins_39 (by decide) ?_
    refine lv_iadd hx hb d_Coast_begins_40 ?_
    rw [nI_1]
    refine zput (ci := 9) (fs := [.ref aD, .ref aE, .int (nI t.2.1)]) (ty := .int) (v := .int (nI (t.2.1 + 1))) (ws2 := (aC, .inr (9, [.ref aD, .ref aE, .int (nI (t.2.1 + 1))])) :: (aD, .inl (c1, 8, .inl (d))) :: (aE, .inl (c2, 1000, .inl (upd (t.1) (t.2.1) ((10 * kd) + mb)))) :: rest) E hK hP hD hS 0 rfl zC_Coast t_Coast o_Coast n_Coast 2 (by decide) kw_31 (Or.inl rfl) rfl rfl rfl rfl (Nat.le_of_ble_eq_true rfl) d_Coast_begins_41 (rfl) (fun H locs hP hD hS => ?_)
    exact zrv E hK hP hD hS d_Coast_begins_44
  · have e9 : tb (10 * kd + mb) t = t := by unfold tb; rw [dif_neg h1]
    rw [e9]
    refine zM_of "CoastLamps$Coast" rfl (by decide) (Nat.le_of_ble_eq_true rfl) ?_
    intro p e s m below meth c ls E hP hK hD hS hl
    obtain ⟨hx, hb, hml, ho, hts, hr, hlk⟩ := id E
    have hl : lv_has ls 3 [(0, .ref aC), (1, .int kd), (2, .int mb)] := hl
    refine lv_aload_n hx hb d_Coast_begins_0 rfl (lv_at hl 0 rfl) ?_
    refine zget (ci := 9) (fs := [.ref aD, .ref aE, .int (nI t.2.1)]) E hK hP 0 rfl zC_Coast 2 (by decide) kw_31 (Or.inl rfl) rfl d_Coast_begins_1 ?_
    refine lv_if_lt (tgt := 44) hx hb d_Coast_begins_4 (by decide) (fun h9 => absurd h9 (nI_pos (nI_w t))) (fun _ => ?_)
    refine lv_aload_n hx hb d_Coast_begins_7 rfl (lv_at hl 0 rfl) ?_
    refine zget (ci := 9) (fs := [.ref aD, .ref aE, .int (nI t.2.1)]) E hK hP 0 rfl zC_Coast 2 (by decide) kw_31 (Or.inl rfl) rfl d_Coast_begins_8 ?_
    refine lv_aload_n hx hb d_Coast_begins_11 rfl (lv_at hl 0 rfl) ?_
    refine zget (ci := 9) (fs := [.ref aD, .ref aE, .int (nI t.2.1)]) E hK hP 0 rfl zC_Coast 1 (by decide) kw_30 (Or.inl rfl) rfl d_Coast_begins_12 ?_
    refine va_alen (x := (1000, .inl (t.1))) hx hb hK hP 2 1 rfl rfl (v := nI 1000) rfl d_Coast_begins_15 ?_
    refine lv_icmp_ge (tgt := 44) hx hb d_Coast_begins_16 (by decide) (fun _ => ?_) (fun h9 => absurd (nI_le (by omega) (nI_w t)) h9)
    exact zrv E hK hP hD hS d_Coast_begins_44
set_option maxHeartbeats 4000000 in
set_option maxRecDepth 100000 in
theorem c_Coast_dialed (l : Launch) (dC : Nat → ClassId) (dI : Nat → Nat → Nat) (c1 c2 c3 : ClassId) (A : Nat → Prop) (aC aD aE : Nat) (d : Nat → Int32) (rest : va_W) (t : zT) (x : Int32) (i : Nat) (hx0 : x = nI i) (hi : i < 8) : zM l y_Coast_dialed b_Coast_dialed 2 (some (FieldType.int)) 0 0 [.ref aC, .int x] (dC, dI) (t3 c1 c2 c3) A (wc c1 c2 aC aD aE d rest t) (wc c1 c2 aC aD aE d rest t) (some (.int (d i))) := by
  subst hx0
  refine zM_of "CoastLamps$Coast" rfl (by decide) (Nat.le_of_ble_eq_true rfl) ?_
  intro p e s m below meth c ls E hP hK hD hS hl
  obtain ⟨hx, hb, hml, ho, hts, hr, hlk⟩ := id E
  have hl : lv_has ls 2 [(0, .ref aC), (1, .int (nI i))] := hl
  refine lv_iload_n hx hb d_Coast_dialed_0 rfl (lv_at hl 1 rfl) ?_
  refine lv_if_lt (tgt := 22) hx hb d_Coast_dialed_1 (by decide) (fun h9 => absurd h9 (nI_pos (by omega))) (fun _ => ?_)
  refine lv_iload_n hx hb d_Coast_dialed_4 rfl (lv_at hl 1 rfl) ?_
  refine lv_aload_n hx hb d_Coast_dialed_5 rfl (lv_at hl 0 rfl) ?_
  refine zget (ci := 9) (fs := [.ref aD, .ref aE, .int (nI t.2.1)]) E hK hP 0 rfl zC_Coast 0 (by decide) kw_29 (Or.inl rfl) rfl d_Coast_dialed_6 ?_
  refine va_alen (x := (8, .inl (d))) hx hb hK hP 1 0 rfl rfl (v := nI 8) rfl d_Coast_dialed_9 ?_
  refine lv_icmp_ge (tgt := 22) hx hb d_Coast_dialed_10 (by decide) (fun h9 => absurd h9 (nI_ge hi (by decide))) (fun _ => ?_)
  refine lv_aload_n hx hb d_Coast_dialed_13 rfl (lv_at hl 0 rfl) ?_
  refine zget (ci := 9) (fs := [.ref aD, .ref aE, .int (nI t.2.1)]) E hK hP 0 rfl zC_Coast 0 (by decide) kw_29 (Or.inl rfl) rfl d_Coast_dialed_14 ?_
  refine lv_iload_n hx hb d_Coast_dialed_17 rfl (lv_at hl 1 rfl) ?_
  refine va_iald hx hb hK hP 1 0 rfl rfl (vp_in_nI hi (by decide)) d_Coast_dialed_18 ?_
  rw [nI_clamp (by omega)]
  refine lv_goto (tgt := 23) hx hb d_Coast_dialed_19 (by decide) ?_
  exact zri E hK hP hD hS d_Coast_dialed_23
set_option maxHeartbeats 4000000 in
set_option maxRecDepth 100000 in
theorem c_Coast_turn (l : Launch) (dC : Nat → ClassId) (dI : Nat → Nat → Nat) (c1 c2 c3 : ClassId) (A : Nat → Prop) (aC aD aE : Nat) (d : Nat → Int32) (rest : va_W) (t : zT) (x v : Int32) (i : Nat) (hx0 : x = nI i) (hi : i < 8) : zM l y_Coast_turn b_Coast_turn 3 none 0 0 [.ref aC, .int x, .int v] (dC, dI) (t3 c1 c2 c3) A (wc c1 c2 aC aD aE d rest t) (wc c1 c2 aC aD aE (upd d i v) rest t) none := by
  subst hx0
  refine zM_of "CoastLamps$Coast" rfl (by decide) (Nat.le_of_ble_eq_true rfl) ?_
  intro p e s m below meth c ls E hP hK hD hS hl
  obtain ⟨hx, hb, hml, ho, hts, hr, hlk⟩ := id E
  have hl : lv_has ls 3 [(0, .ref aC), (1, .int (nI i)), (2, .int v)] := hl
  refine lv_iload_n hx hb d_Coast_turn_0 rfl (lv_at hl 1 rfl) ?_
  refine lv_if_lt (tgt := 20) hx hb d_Coast_turn_1 (by decide) (fun h9 => absurd h9 (nI_pos (by omega))) (fun _ => ?_)
  refine lv_iload_n hx hb d_Coast_turn_4 rfl (lv_at hl 1 rfl) ?_
  refine lv_aload_n hx hb d_Coast_turn_5 rfl (lv_at hl 0 rfl) ?_
  refine zget (ci := 9) (fs := [.ref aD, .ref aE, .int (nI t.2.1)]) E hK hP 0 rfl zC_Coast 0 (by decide) kw_29 (Or.inl rfl) rfl d_Coast_turn_6 ?_
  refine va_alen (x := (8, .inl (d))) hx hb hK hP 1 0 rfl rfl (v := nI 8) rfl d_Coast_turn_9 ?_
  refine lv_icmp_ge (tgt := 20) hx hb d_Coast_turn_10 (by decide) (fun h9 => absurd h9 (nI_ge hi (by decide))) (fun _ => ?_)
  refine lv_aload_n hx hb d_Coast_turn_13 rfl (lv_at hl 0 rfl) ?_
  refine zget (ci := 9) (fs := [.ref aD, .ref aE, .int (nI t.2.1)]) E hK hP 0 rfl zC_Coast 0 (by decide) kw_29 (Or.inl rfl) rfl d_Coast_turn_14 ?_
  refine lv_iload_n hx hb d_Coast_turn_17 rfl (lv_at hl 1 rfl) ?_
  refine lv_iload_n hx hb d_Coast_turn_18 rfl (lv_at hl 2 rfl) ?_
  refine va_iast hx hb hK hP hD hS 1 0 rfl rfl (vp_in_nI hi (by decide)) d_Coast_turn_19 (fun H locs hP hD hS => ?_)
  rw [nI_clamp (by omega)] at hP hD
  have hP : va_P (dC, dI) classes ((aC, .inr (9, [.ref aD, .ref aE, .int (nI t.2.1)])) :: (aD, .inl (c1, 8, .inl (upd (d) (i) (v)))) :: (aE, .inl (c2, 1000, .inl (t.1))) :: rest) H := hP
  have hD : va_D A ((aC, .inr (9, [.ref aD, .ref aE, .int (nI t.2.1)])) :: (aD, .inl (c1, 8, .inl (upd (d) (i) (v)))) :: (aE, .inl (c2, 1000, .inl (t.1))) :: rest) := hD
  exact zrv E hK hP hD hS d_Coast_turn_20
set_option maxHeartbeats 4000000 in
set_option maxRecDepth 100000 in
theorem c_Coast_entry (l : Launch) (dC : Nat → ClassId) (dI : Nat → Nat → Nat) (c1 c2 c3 : ClassId) (A : Nat → Prop) (aC aD aE : Nat) (d : Nat → Int32) (rest : va_W) (t : zT) (x : Int32) (i : Nat) (hx0 : x = nI i) (hi : i < 1000) : zM l y_Coast_entry b_Coast_entry 2 (some (FieldType.int)) 0 0 [.ref aC, .int x] (dC, dI) (t3 c1 c2 c3) A (wc c1 c2 aC aD aE d rest t) (wc c1 c2 aC aD aE d rest t) (some (.int (t.1 i))) := by
  subst hx0
  refine zM_of "CoastLamps$Coast" rfl (by decide) (Nat.le_of_ble_eq_true rfl) ?_
  intro p e s m below meth c ls E hP hK hD hS hl
  obtain ⟨hx, hb, hml, ho, hts, hr, hlk⟩ := id E
  have hl : lv_has ls 2 [(0, .ref aC), (1, .int (nI i))] := hl
  refine lv_iload_n hx hb d_Coast_entry_0 rfl (lv_at hl 1 rfl) ?_
  refine lv_if_lt (tgt := 22) hx hb d_Coast_entry_1 (by decide) (fun h9 => absurd h9 (nI_pos (by omega))) (fun _ => ?_)
  refine lv_iload_n hx hb d_Coast_entry_4 rfl (lv_at hl 1 rfl) ?_
  refine lv_aload_n hx hb d_Coast_entry_5 rfl (lv_at hl 0 rfl) ?_
  refine zget (ci := 9) (fs := [.ref aD, .ref aE, .int (nI t.2.1)]) E hK hP 0 rfl zC_Coast 1 (by decide) kw_30 (Or.inl rfl) rfl d_Coast_entry_6 ?_
  refine va_alen (x := (1000, .inl (t.1))) hx hb hK hP 2 1 rfl rfl (v := nI 1000) rfl d_Coast_entry_9 ?_
  refine lv_icmp_ge (tgt := 22) hx hb d_Coast_entry_10 (by decide) (fun h9 => absurd h9 (nI_ge hi (by decide))) (fun _ => ?_)
  refine lv_aload_n hx hb d_Coast_entry_13 rfl (lv_at hl 0 rfl) ?_
  refine zget (ci := 9) (fs := [.ref aD, .ref aE, .int (nI t.2.1)]) E hK hP 0 rfl zC_Coast 1 (by decide) kw_30 (Or.inl rfl) rfl d_Coast_entry_14 ?_
  refine lv_iload_n hx hb d_Coast_entry_17 rfl (lv_at hl 1 rfl) ?_
  refine va_iald hx hb hK hP 2 1 rfl rfl (vp_in_nI hi (by decide)) d_Coast_entry_18 ?_
  rw [nI_clamp (by omega)]
  refine lv_goto (tgt := 23) hx hb d_Coast_entry_19 (by decide) ?_
  exact zri E hK hP hD hS d_Coast_entry_23
set_option maxHeartbeats 4000000 in
set_option maxRecDepth 100000 in
theorem c_Coast_wipe (l : Launch) (dC : Nat → ClassId) (dI : Nat → Nat → Nat) (c1 c2 c3 : ClassId) (A : Nat → Prop) (aC aD aE : Nat) (d : Nat → Int32) (rest : va_W) (t : zT) : zM l y_Coast_wipe b_Coast_wipe 1 none 0 0 [.ref aC] (dC, dI) (t3 c1 c2 c3) A (wc c1 c2 aC aD aE d rest t) (wc c1 c2 aC aD aE d rest (t.1, ⟨0, by decide⟩)) none := by
  refine zM_of "CoastLamps$Coast" rfl (by decide) (Nat.le_of_ble_eq_true rfl) ?_
  intro p e s m below meth c ls E hP hK hD hS hl
  obtain ⟨hx, hb, hml, ho, hts, hr, hlk⟩ := id E
  have hl : lv_has ls 1 [(0, .ref aC)] := hl
  refine lv_aload_n hx hb d_Coast_wipe_0 rfl (lv_at hl 0 rfl) ?_
  refine lv_iconst (v := 0) hx hb d_Coast_wipe_1 (by decide) ?_
  rw [show (0 : Int32) = nI 0 from nI_0.symm]
  refine zput (ci := 9) (fs := [.ref aD, .ref aE, .int (nI t.2.1)]) (ty := .int) (v := .int (nI 0)) (ws2 := (aC, .inr (9, [.ref aD, .ref aE, .int (nI 0)])) :: (aD, .inl (c1, 8, .inl (d))) :: (aE, .inl (c2, 1000, .inl (t.1))) :: rest) E hK hP hD hS 0 rfl zC_Coast t_Coast o_Coast n_Coast 2 (by decide) kw_31 (Or.inl rfl) rfl rfl rfl rfl (Nat.le_of_ble_eq_true rfl) d_Coast_wipe_2 (rfl) (fun H locs hP hD hS => ?_)
  exact zrv E hK hP hD hS d_Coast_wipe_5
end
section
set_option maxHeartbeats 4000000 in
set_option maxRecDepth 100000 in
theorem c_Lamp_burn (l : Launch) (dC : Nat → ClassId) (dI : Nat → Nat → Nat) (c1 c2 c3 : ClassId) (A : Nat → Prop) (aC aD aE aL k : Nat) (hk : k < 9) (d : Nat → Int32) (kd ht tk lt : Int32) (rest : va_W) (j : Nat) (hj : j < rest.length) (σ : zS) (x : Int32) : zM l y_Lamp_burn b_Lamp_burn 2 (some (FieldType.int)) 1 22 [.ref aL, .int x] (dC, dI) (t3 c1 c2 c3) A (wl c1 c2 aC aD aE aL k d kd ht tk lt rest j σ) (wl c1 c2 aC aD aE aL k d kd ht tk lt rest j (bLamp d x σ).2) (some (.int (bLamp d x σ).1)) := by
  refine zM_of "CoastLamps$Lamp" rfl (by decide) (Nat.le_of_ble_eq_true rfl) ?_
  intro p e s m below meth c ls E hP hK hD hS hl
  obtain ⟨hx, hb, hml, ho, hts, hr, hlk⟩ := id E
  have hl : lv_has ls 2 [(0, .ref aL), (1, .int x)] := hl
  refine lv_aload_n hx hb d_Lamp_burn_0 rfl (lv_at hl 0 rfl) ?_
  refine zget (ci := k) (fs := [.ref aC, .int kd, .int ht, .int tk, .int σ.1, .int lt]) E hK hP (j + 3) (zg hj) (zC_K hk) 0 (by decide) kw_97 (Or.inl rfl) rfl d_Lamp_burn_1 ?_
  refine lv_iconst (v := 0) hx hb d_Lamp_burn_4 (by decide) ?_
  refine lv_iconst (v := 0) hx hb d_Lamp_burn_5 (by decide) ?_
  refine zcV (As := [.int 0, .int 0]) (rest := []) (ci := 9) E cy_Coast_begins kw_293 kw_294 kw_334 (c_Coast_begins l dC dI c1 c2 c3 A aC aD aE d (rest.set j (wL aC aL k kd ht tk σ.1 lt)) σ.2 0 0 0 (by decide)) hK hP hD hS 0 rfl zC_Coast.1 rfl rfl hl.1 rfl (Nat.le_of_ble_eq_true rfl) ⟨Nat.le_of_ble_eq_true rfl, Nat.le_of_ble_eq_true rfl⟩ d_Lamp_burn_6 ⟨Nat.le_refl _, Nat.le_refl _⟩ (fun H locs hP hD hS => ?_)
  have hP : va_P (dC, dI) classes (wl c1 c2 aC aD aE aL k d kd ht tk lt rest j (σ.1, tb 0 σ.2)) H := hP
  have hD : va_D A (wl c1 c2 aC aD aE aL k d kd ht tk lt rest j (σ.1, tb 0 σ.2)) := hD
  refine lv_aload_n hx hb d_Lamp_burn_9 rfl (lv_at hl 0 rfl) ?_
  refine lv_dup hx hb d_Lamp_burn_10 rfl ?_
  refine zget (ci := k) (fs := [.ref aC, .int kd, .int ht, .int tk, .int σ.1, .int lt]) E hK hP (j + 3) (zg hj) (zC_K hk) 4 (by decide) kw_128 (Or.inl rfl) rfl d_Lamp_burn_11 ?_
  refine lv_iload_n hx hb d_Lamp_burn_14 rfl (lv_at hl 1 rfl) ?_
  refine lv_iadd hx hb d_Lamp_burn_15 ?_
  refine zput (ci := k) (fs := [.ref aC, .int kd, .int ht, .int tk, .int σ.1, .int lt]) (ty := .int) (v := .int (σ.1 + x)) (ws2 := wl c1 c2 aC aD aE aL k d kd ht tk lt rest j (σ.1 + x, tb 0 σ.2)) E hK hP hD hS (j + 3) (zg hj) (zC_K hk) t_Lamp o_Lamp n_Lamp 4 (by decide) kw_128 (Or.inl rfl) rfl rfl rfl rfl (Nat.le_of_ble_eq_true rfl) d_Lamp_burn_16 (zs) (fun H locs hP hD hS => ?_)
  refine lv_iload_n hx hb d_Lamp_burn_19 rfl (lv_at hl 1 rfl) ?_
  refine lv_aload_n hx hb d_Lamp_burn_20 rfl (lv_at hl 0 rfl) ?_
  refine zget (ci := k) (fs := [.ref aC, .int kd, .int ht, .int tk, .int (σ.1 + x), .int lt]) E hK hP (j + 3) (zg hj) (zC_K hk) 0 (by decide) kw_97 (Or.inl rfl) rfl d_Lamp_burn_21 ?_
  refine lv_iconst (v := 0) hx hb d_Lamp_burn_24 (by decide) ?_
  refine zcV (As := [.int 0]) (rest := [.int x]) (ci := 9) E cy_Coast_dialed kw_73 kw_74 kw_335 (c_Coast_dialed l dC dI c1 c2 c3 A aC aD aE d (rest.set j (wL aC aL k kd ht tk (σ.1 + x) lt)) (tb 0 σ.2) 0 0 (by decide) (by decide)) hK hP hD hS 0 rfl zC_Coast.1 rfl rfl hl.1 rfl (Nat.le_of_ble_eq_true rfl) ⟨Nat.le_of_ble_eq_true rfl, Nat.le_of_ble_eq_true rfl⟩ d_Lamp_burn_25 ⟨Nat.le_refl _, Nat.le_refl _⟩ (fun H locs hP hD hS => ?_)
  have hP : va_P (dC, dI) classes (wl c1 c2 aC aD aE aL k d kd ht tk lt rest j (σ.1 + x, tb 0 σ.2)) H := hP
  have hD : va_D A (wl c1 c2 aC aD aE aL k d kd ht tk lt rest j (σ.1 + x, tb 0 σ.2)) := hD
  refine lv_imul hx hb d_Lamp_burn_28 ?_
  refine lv_iconst (v := 1) hx hb d_Lamp_burn_29 (by decide) ?_
  refine lv_iadd hx hb d_Lamp_burn_30 ?_
  exact zri E hK hP hD hS d_Lamp_burn_31
set_option maxHeartbeats 4000000 in
set_option maxRecDepth 100000 in
theorem c_Oil_burn (l : Launch) (dC : Nat → ClassId) (dI : Nat → Nat → Nat) (c1 c2 c3 : ClassId) (A : Nat → Prop) (aC aD aE aL k : Nat) (hk : k < 9) (d : Nat → Int32) (kd ht tk lt : Int32) (rest : va_W) (j : Nat) (hj : j < rest.length) (σ : zS) (x : Int32) : zM l y_Oil_burn b_Oil_burn 3 (some (FieldType.int)) 2 43 [.ref aL, .int x] (dC, dI) (t3 c1 c2 c3) A (wl c1 c2 aC aD aE aL k d kd ht tk lt rest j σ) (wl c1 c2 aC aD aE aL k d kd ht tk lt rest j (bOil d x σ).2) (some (.int (bOil d x σ).1)) := by
  refine zM_of "CoastLamps$Oil" rfl (by decide) (Nat.le_of_ble_eq_true rfl) ?_
  intro p e s m below meth c ls E hP hK hD hS hl
  obtain ⟨hx, hb, hml, ho, hts, hr, hlk⟩ := id E
  have hl : lv_has ls 3 [(0, .ref aL), (1, .int x)] := hl
  refine lv_aload_n hx hb d_Oil_burn_0 rfl (lv_at hl 0 rfl) ?_
  refine zget (ci := k) (fs := [.ref aC, .int kd, .int ht, .int tk, .int σ.1, .int lt]) E hK hP (j + 3) (zg hj) (zC_K hk) 0 (by decide) kw_98 (Or.inr kw_99) rfl d_Oil_burn_1 ?_
  refine lv_iconst (v := 1) hx hb d_Oil_burn_4 (by decide) ?_
  refine lv_iconst (v := 0) hx hb d_Oil_burn_5 (by decide) ?_
  refine zcV (As := [.int 1, .int 0]) (rest := []) (ci := 9) E cy_Coast_begins kw_293 kw_294 kw_308 (c_Coast_begins l dC dI c1 c2 c3 A aC aD aE d (rest.set j (wL aC aL k kd ht tk σ.1 lt)) σ.2 1 0 10 (by decide)) hK hP hD hS 0 rfl zC_Coast.1 rfl rfl hl.1 rfl (Nat.le_of_ble_eq_true rfl) ⟨Nat.le_of_ble_eq_true rfl, Nat.le_of_ble_eq_true rfl⟩ d_Oil_burn_6 ⟨Nat.le_refl _, Nat.le_refl _⟩ (fun H locs hP hD hS => ?_)
  have hP : va_P (dC, dI) classes (wl c1 c2 aC aD aE aL k d kd ht tk lt rest j (σ.1, tb 10 σ.2)) H := hP
  have hD : va_D A (wl c1 c2 aC aD aE aL k d kd ht tk lt rest j (σ.1, tb 10 σ.2)) := hD
  refine lv_aload_n hx hb d_Oil_burn_9 rfl (lv_at hl 0 rfl) ?_
  refine lv_iload_n hx hb d_Oil_burn_10 rfl (lv_at hl 1 rfl) ?_
  refine zcP (x := ⟨"CoastLamps$Lamp", "burn", "(I)I"⟩) (As := [.int x]) (rest := []) (ci := k) E cy_Lamp_burn kw_287 kw_288 ⟨rfl, rfl, by decide⟩ kw_146 (fun a1 g1 h1 h2 => by cases h1.symm.trans h2; simp [Vm.isSubclass, Vm.isSubclassAux]) kw_309 (c_Lamp_burn l dC dI c1 c2 c3 A aC aD aE aL k hk d kd ht tk lt rest j hj (σ.1, tb 10 σ.2) x) hK hP hD hS (j + 3) (zg hj) (zC_K hk).1 rfl hl.1 rfl (Nat.le_of_ble_eq_true rfl) ⟨Nat.le_of_ble_eq_true rfl, Nat.le_of_ble_eq_true rfl⟩ d_Oil_burn_11 ⟨Nat.le_refl _, Nat.le_refl _⟩ (fun H locs hP hD hS => ?_)
  have hP : va_P (dC, dI) classes (wl c1 c2 aC aD aE aL k d kd ht tk lt rest j ((bLamp d x (σ.1, tb 10 σ.2)).2)) H := hP
  have hD : va_D A (wl c1 c2 aC aD aE aL k d kd ht tk lt rest j ((bLamp d x (σ.1, tb 10 σ.2)).2)) := hD
  refine lv_istore_n (lv' := [(2, .int ((bLamp d x (σ.1, tb 10 σ.2)).1)), (0, .ref aL), (1, .int x)]) hx hb d_Oil_burn_14 rfl hl (by decide) rfl (fun ls hl => ?_)
  refine lv_iload_n hx hb d_Oil_burn_15 rfl (lv_at hl 0 rfl) ?_
  refine lv_aload_n hx hb d_Oil_burn_16 rfl (lv_at hl 1 rfl) ?_
  refine zget (ci := k) (fs := [.ref aC, .int kd, .int ht, .int tk, .int (((bLamp d x (σ.1, tb 10 σ.2)).2).1), .int lt]) E hK hP (j + 3) (zg hj) (zC_K hk) 4 (by decide) kw_126 (Or.inr kw_127) rfl d_Oil_burn_17 ?_
  refine lv_bipush (v := 50) hx hb d_Oil_burn_20 (by decide) ?_
  refine lv_idiv hx hb d_Oil_burn_22 (by decide) ?_
  refine lv_iadd hx hb d_Oil_burn_23 ?_
  exact zri E hK hP hD hS d_Oil_burn_24
set_option maxHeartbeats 4000000 in
set_option maxRecDepth 100000 in
theorem c_Twin_burn (l : Launch) (dC : Nat → ClassId) (dI : Nat → Nat → Nat) (c1 c2 c3 : ClassId) (A : Nat → Prop) (aC aD aE aL k : Nat) (hk : k < 9) (d : Nat → Int32) (kd ht tk lt : Int32) (rest : va_W) (j : Nat) (hj : j < rest.length) (σ : zS) (x : Int32) : zM l y_Twin_burn b_Twin_burn 3 (some (FieldType.int)) 3 65 [.ref aL, .int x] (dC, dI) (t3 c1 c2 c3) A (wl c1 c2 aC aD aE aL k d kd ht tk lt rest j σ) (wl c1 c2 aC aD aE aL k d kd ht tk lt rest j (bTwin d x σ).2) (some (.int (bTwin d x σ).1)) := by
  refine zM_of "CoastLamps$Twin" rfl (by decide) (Nat.le_of_ble_eq_true rfl) ?_
  intro p e s m below meth c ls E hP hK hD hS hl
  obtain ⟨hx, hb, hml, ho, hts, hr, hlk⟩ := id E
  have hl : lv_has ls 3 [(0, .ref aL), (1, .int x)] := hl
  refine lv_aload_n hx hb d_Twin_burn_0 rfl (lv_at hl 0 rfl) ?_
  refine zget (ci := k) (fs := [.ref aC, .int kd, .int ht, .int tk, .int σ.1, .int lt]) E hK hP (j + 3) (zg hj) (zC_K hk) 0 (by decide) kw_114 (Or.inr kw_115) rfl d_Twin_burn_1 ?_
  refine lv_iconst (v := 3) hx hb d_Twin_burn_4 (by decide) ?_
  refine lv_iconst (v := 0) hx hb d_Twin_burn_5 (by decide) ?_
  refine zcV (As := [.int 3, .int 0]) (rest := []) (ci := 9) E cy_Coast_begins kw_293 kw_294 kw_302 (c_Coast_begins l dC dI c1 c2 c3 A aC aD aE d (rest.set j (wL aC aL k kd ht tk σ.1 lt)) σ.2 3 0 30 (by decide)) hK hP hD hS 0 rfl zC_Coast.1 rfl rfl hl.1 rfl (Nat.le_of_ble_eq_true rfl) ⟨Nat.le_of_ble_eq_true rfl, Nat.le_of_ble_eq_true rfl⟩ d_Twin_burn_6 ⟨Nat.le_refl _, Nat.le_refl _⟩ (fun H locs hP hD hS => ?_)
  have hP : va_P (dC, dI) classes (wl c1 c2 aC aD aE aL k d kd ht tk lt rest j (σ.1, tb 30 σ.2)) H := hP
  have hD : va_D A (wl c1 c2 aC aD aE aL k d kd ht tk lt rest j (σ.1, tb 30 σ.2)) := hD
  refine lv_aload_n hx hb d_Twin_burn_9 rfl (lv_at hl 0 rfl) ?_
  refine lv_iload_n hx hb d_Twin_burn_10 rfl (lv_at hl 1 rfl) ?_
  refine zcP (x := ⟨"CoastLamps$Round", "burn", "(I)I"⟩) (As := [.int x]) (rest := []) (ci := k) E cy_Oil_burn kw_306 kw_304 ⟨rfl, rfl, by decide⟩ kw_172 (fun a1 g1 h1 h2 => z_sub1 (hts _ kw_159) h1 h2) kw_303 (c_Oil_burn l dC dI c1 c2 c3 A aC aD aE aL k hk d kd ht tk lt rest j hj (σ.1, tb 30 σ.2) x) hK hP hD hS (j + 3) (zg hj) (zC_K hk).1 rfl hl.1 rfl (Nat.le_of_ble_eq_true rfl) ⟨Nat.le_of_ble_eq_true rfl, Nat.le_of_ble_eq_true rfl⟩ d_Twin_burn_11 ⟨Nat.le_refl _, Nat.le_refl _⟩ (fun H locs hP hD hS => ?_)
  have hP : va_P (dC, dI) classes (wl c1 c2 aC aD aE aL k d kd ht tk lt rest j ((bOil d x (σ.1, tb 30 σ.2)).2)) H := hP
  have hD : va_D A (wl c1 c2 aC aD aE aL k d kd ht tk lt rest j ((bOil d x (σ.1, tb 30 σ.2)).2)) := hD
  refine lv_istore_n (lv' := [(2, .int ((bOil d x (σ.1, tb 30 σ.2)).1)), (0, .ref aL), (1, .int x)]) hx hb d_Twin_burn_14 rfl hl (by decide) rfl (fun ls hl => ?_)
  refine lv_iload_n hx hb d_Twin_burn_15 rfl (lv_at hl 0 rfl) ?_
  refine lv_aload_n hx hb d_Twin_burn_16 rfl (lv_at hl 1 rfl) ?_
  refine lv_iload_n hx hb d_Twin_burn_17 rfl (lv_at hl 2 rfl) ?_
  refine zcP (x := ⟨"CoastLamps$Round", "burn", "(I)I"⟩) (As := [.int x]) (rest := [.int ((bOil d x (σ.1, tb 30 σ.2)).1)]) (ci := k) E cy_Oil_burn kw_306 kw_304 ⟨rfl, rfl, by decide⟩ kw_172 (fun a1 g1 h1 h2 => z_sub1 (hts _ kw_159) h1 h2) kw_303 (c_Oil_burn l dC dI c1 c2 c3 A aC aD aE aL k hk d kd ht tk lt rest j hj ((bOil d x (σ.1, tb 30 σ.2)).2) x) hK hP hD hS (j + 3) (zg hj) (zC_K hk).1 rfl hl.1 rfl (Nat.le_of_ble_eq_true rfl) ⟨Nat.le_of_ble_eq_true rfl, Nat.le_of_ble_eq_true rfl⟩ d_Twin_burn_18 ⟨Nat.le_refl _, Nat.le_refl _⟩ (fun H locs hP hD hS => ?_)
  have hP : va_P (dC, dI) classes (wl c1 c2 aC aD aE aL k d kd ht tk lt rest j ((bOil d x ((bOil d x (σ.1, tb 30 σ.2)).2)).2)) H := hP
  have hD : va_D A (wl c1 c2 aC aD aE aL k d kd ht tk lt rest j ((bOil d x ((bOil d x (σ.1, tb 30 σ.2)).2)).2)) := hD
  refine lv_iadd hx hb d_Twin_burn_21 ?_
  exact zri E hK hP hD hS d_Twin_burn_22
set_option maxHeartbeats 4000000 in
set_option maxRecDepth 100000 in
theorem c_Swing_burn (l : Launch) (dC : Nat → ClassId) (dI : Nat → Nat → Nat) (c1 c2 c3 : ClassId) (A : Nat → Prop) (aC aD aE aL k : Nat) (hk : k < 9) (d : Nat → Int32) (kd ht tk lt : Int32) (rest : va_W) (j : Nat) (hj : j < rest.length) (σ : zS) (x : Int32) : zM l y_Swing_burn b_Swing_burn 2 (some (FieldType.int)) 4 87 [.ref aL, .int x] (dC, dI) (t3 c1 c2 c3) A (wl c1 c2 aC aD aE aL k d kd ht tk lt rest j σ) (wl c1 c2 aC aD aE aL k d kd ht tk lt rest j (bSwing d x σ).2) (some (.int (bSwing d x σ).1)) := by
  refine zM_of "CoastLamps$Swing" rfl (by decide) (Nat.le_of_ble_eq_true rfl) ?_
  intro p e s m below meth c ls E hP hK hD hS hl
  obtain ⟨hx, hb, hml, ho, hts, hr, hlk⟩ := id E
  have hl : lv_has ls 2 [(0, .ref aL), (1, .int x)] := hl
  refine lv_aload_n hx hb d_Swing_burn_0 rfl (lv_at hl 0 rfl) ?_
  refine zget (ci := k) (fs := [.ref aC, .int kd, .int ht, .int tk, .int σ.1, .int lt]) E hK hP (j + 3) (zg hj) (zC_K hk) 0 (by decide) kw_102 (Or.inr kw_103) rfl d_Swing_burn_1 ?_
  refine lv_iconst (v := 5) hx hb d_Swing_burn_4 (by decide) ?_
  refine lv_iconst (v := 0) hx hb d_Swing_burn_5 (by decide) ?_
  refine zcV (As := [.int 5, .int 0]) (rest := []) (ci := 9) E cy_Coast_begins kw_293 kw_294 kw_328 (c_Coast_begins l dC dI c1 c2 c3 A aC aD aE d (rest.set j (wL aC aL k kd ht tk σ.1 lt)) σ.2 5 0 50 (by decide)) hK hP hD hS 0 rfl zC_Coast.1 rfl rfl hl.1 rfl (Nat.le_of_ble_eq_true rfl) ⟨Nat.le_of_ble_eq_true rfl, Nat.le_of_ble_eq_true rfl⟩ d_Swing_burn_6 ⟨Nat.le_refl _, Nat.le_refl _⟩ (fun H locs hP hD hS => ?_)
  have hP : va_P (dC, dI) classes (wl c1 c2 aC aD aE aL k d kd ht tk lt rest j (σ.1, tb 50 σ.2)) H := hP
  have hD : va_D A (wl c1 c2 aC aD aE aL k d kd ht tk lt rest j (σ.1, tb 50 σ.2)) := hD
  refine lv_aload_n hx hb d_Swing_burn_9 rfl (lv_at hl 0 rfl) ?_
  refine lv_iload_n hx hb d_Swing_burn_10 rfl (lv_at hl 1 rfl) ?_
  refine zcP (x := ⟨"CoastLamps$Drum", "burn", "(I)I"⟩) (As := [.int x]) (rest := []) (ci := k) E cy_Twin_burn kw_300 kw_330 ⟨rfl, rfl, by decide⟩ kw_198 (fun a1 g1 h1 h2 => z_sub1 (hts _ kw_185) h1 h2) kw_329 (c_Twin_burn l dC dI c1 c2 c3 A aC aD aE aL k hk d kd ht tk lt rest j hj (σ.1, tb 50 σ.2) x) hK hP hD hS (j + 3) (zg hj) (zC_K hk).1 rfl hl.1 rfl (Nat.le_of_ble_eq_true rfl) ⟨Nat.le_of_ble_eq_true rfl, Nat.le_of_ble_eq_true rfl⟩ d_Swing_burn_11 ⟨Nat.le_refl _, Nat.le_refl _⟩ (fun H locs hP hD hS => ?_)
  have hP : va_P (dC, dI) classes (wl c1 c2 aC aD aE aL k d kd ht tk lt rest j ((bTwin d x (σ.1, tb 50 σ.2)).2)) H := hP
  have hD : va_D A (wl c1 c2 aC aD aE aL k d kd ht tk lt rest j ((bTwin d x (σ.1, tb 50 σ.2)).2)) := hD
  refine lv_iload_n hx hb d_Swing_burn_14 rfl (lv_at hl 1 rfl) ?_
  refine lv_iconst (v := 2) hx hb d_Swing_burn_15 (by decide) ?_
  refine lv_idiv hx hb d_Swing_burn_16 (by decide) ?_
  refine lv_iadd hx hb d_Swing_burn_17 ?_
  exact zri E hK hP hD hS d_Swing_burn_18
set_option maxHeartbeats 4000000 in
set_option maxRecDepth 100000 in
theorem c_Flare_burn (l : Launch) (dC : Nat → ClassId) (dI : Nat → Nat → Nat) (c1 c2 c3 : ClassId) (A : Nat → Prop) (aC aD aE aL k : Nat) (hk : k < 9) (d : Nat → Int32) (kd ht tk lt : Int32) (rest : va_W) (j : Nat) (hj : j < rest.length) (σ : zS) (x : Int32) : zM l y_Flare_burn b_Flare_burn 2 (some (FieldType.int)) 2 43 [.ref aL, .int x] (dC, dI) (t3 c1 c2 c3) A (wl c1 c2 aC aD aE aL k d kd ht tk lt rest j σ) (wl c1 c2 aC aD aE aL k d kd ht tk lt rest j (bFlare d x σ).2) (some (.int (bFlare d x σ).1)) := by
  refine zM_of "CoastLamps$Flare" rfl (by decide) (Nat.le_of_ble_eq_true rfl) ?_
  intro p e s m below meth c ls E hP hK hD hS hl
  obtain ⟨hx, hb, hml, ho, hts, hr, hlk⟩ := id E
  have hl : lv_has ls 2 [(0, .ref aL), (1, .int x)] := hl
  refine lv_aload_n hx hb d_Flare_burn_0 rfl (lv_at hl 0 rfl) ?_
  refine zget (ci := k) (fs := [.ref aC, .int kd, .int ht, .int tk, .int σ.1, .int lt]) E hK hP (j + 3) (zg hj) (zC_K hk) 0 (by decide) kw_112 (Or.inr kw_113) rfl d_Flare_burn_1 ?_
  refine lv_bipush (v := 7) hx hb d_Flare_burn_4 (by decide) ?_
  refine lv_iconst (v := 0) hx hb d_Flare_burn_6 (by decide) ?_
  refine zcV (As := [.int 7, .int 0]) (rest := []) (ci := 9) E cy_Coast_begins kw_293 kw_294 kw_292 (c_Coast_begins l dC dI c1 c2 c3 A aC aD aE d (rest.set j (wL aC aL k kd ht tk σ.1 lt)) σ.2 7 0 70 (by decide)) hK hP hD hS 0 rfl zC_Coast.1 rfl rfl hl.1 rfl (Nat.le_of_ble_eq_true rfl) ⟨Nat.le_of_ble_eq_true rfl, Nat.le_of_ble_eq_true rfl⟩ d_Flare_burn_7 ⟨Nat.le_refl _, Nat.le_refl _⟩ (fun H locs hP hD hS => ?_)
  have hP : va_P (dC, dI) classes (wl c1 c2 aC aD aE aL k d kd ht tk lt rest j (σ.1, tb 70 σ.2)) H := hP
  have hD : va_D A (wl c1 c2 aC aD aE aL k d kd ht tk lt rest j (σ.1, tb 70 σ.2)) := hD
  refine lv_aload_n hx hb d_Flare_burn_10 rfl (lv_at hl 0 rfl) ?_
  refine lv_iload_n hx hb d_Flare_burn_11 rfl (lv_at hl 1 rfl) ?_
  refine lv_iconst (v := 2) hx hb d_Flare_burn_12 (by decide) ?_
  refine lv_idiv hx hb d_Flare_burn_13 (by decide) ?_
  refine zcP (x := ⟨"CoastLamps$Gas", "burn", "(I)I"⟩) (As := [.int (x / 2)]) (rest := []) (ci := k) E cy_Lamp_burn kw_287 kw_297 ⟨rfl, rfl, by decide⟩ kw_224 (fun a1 g1 h1 h2 => z_sub1 (hts _ kw_211) h1 h2) kw_296 (c_Lamp_burn l dC dI c1 c2 c3 A aC aD aE aL k hk d kd ht tk lt rest j hj (σ.1, tb 70 σ.2) (x / 2)) hK hP hD hS (j + 3) (zg hj) (zC_K hk).1 rfl hl.1 rfl (Nat.le_of_ble_eq_true rfl) ⟨Nat.le_of_ble_eq_true rfl, Nat.le_of_ble_eq_true rfl⟩ d_Flare_burn_14 ⟨Nat.le_refl _, Nat.le_refl _⟩ (fun H locs hP hD hS => ?_)
  have hP : va_P (dC, dI) classes (wl c1 c2 aC aD aE aL k d kd ht tk lt rest j ((bLamp d (x / 2) (σ.1, tb 70 σ.2)).2)) H := hP
  have hD : va_D A (wl c1 c2 aC aD aE aL k d kd ht tk lt rest j ((bLamp d (x / 2) (σ.1, tb 70 σ.2)).2)) := hD
  exact zri E hK hP hD hS d_Flare_burn_17
set_option maxHeartbeats 4000000 in
set_option maxRecDepth 100000 in
theorem c_Outer_burn (l : Launch) (dC : Nat → ClassId) (dI : Nat → Nat → Nat) (c1 c2 c3 : ClassId) (A : Nat → Prop) (aC aD aE aL k : Nat) (hk : k < 9) (d : Nat → Int32) (kd ht tk lt : Int32) (rest : va_W) (j : Nat) (hj : j < rest.length) (σ : zS) (x : Int32) : zM l y_Outer_burn b_Outer_burn 2 (some (FieldType.int)) 3 64 [.ref aL, .int x] (dC, dI) (t3 c1 c2 c3) A (wl c1 c2 aC aD aE aL k d kd ht tk lt rest j σ) (wl c1 c2 aC aD aE aL k d kd ht tk lt rest j (bOuter d x σ).2) (some (.int (bOuter d x σ).1)) := by
  refine zM_of "CoastLamps$Outer" rfl (by decide) (Nat.le_of_ble_eq_true rfl) ?_
  intro p e s m below meth c ls E hP hK hD hS hl
  obtain ⟨hx, hb, hml, ho, hts, hr, hlk⟩ := id E
  have hl : lv_has ls 2 [(0, .ref aL), (1, .int x)] := hl
  refine lv_aload_n hx hb d_Outer_burn_0 rfl (lv_at hl 0 rfl) ?_
  refine zget (ci := k) (fs := [.ref aC, .int kd, .int ht, .int tk, .int σ.1, .int lt]) E hK hP (j + 3) (zg hj) (zC_K hk) 0 (by decide) kw_100 (Or.inr kw_101) rfl d_Outer_burn_1 ?_
  refine lv_bipush (v := 9) hx hb d_Outer_burn_4 (by decide) ?_
  refine lv_iconst (v := 0) hx hb d_Outer_burn_6 (by decide) ?_
  refine zcV (As := [.int 9, .int 0]) (rest := []) (ci := 9) E cy_Coast_begins kw_293 kw_294 kw_316 (c_Coast_begins l dC dI c1 c2 c3 A aC aD aE d (rest.set j (wL aC aL k kd ht tk σ.1 lt)) σ.2 9 0 90 (by decide)) hK hP hD hS 0 rfl zC_Coast.1 rfl rfl hl.1 rfl (Nat.le_of_ble_eq_true rfl) ⟨Nat.le_of_ble_eq_true rfl, Nat.le_of_ble_eq_true rfl⟩ d_Outer_burn_7 ⟨Nat.le_refl _, Nat.le_refl _⟩ (fun H locs hP hD hS => ?_)
  have hP : va_P (dC, dI) classes (wl c1 c2 aC aD aE aL k d kd ht tk lt rest j (σ.1, tb 90 σ.2)) H := hP
  have hD : va_D A (wl c1 c2 aC aD aE aL k d kd ht tk lt rest j (σ.1, tb 90 σ.2)) := hD
  refine lv_aload_n hx hb d_Outer_burn_10 rfl (lv_at hl 0 rfl) ?_
  refine lv_iload_n hx hb d_Outer_burn_11 rfl (lv_at hl 1 rfl) ?_
  refine zcP (x := ⟨"CoastLamps$Buoy", "burn", "(I)I"⟩) (As := [.int x]) (rest := []) (ci := k) E cy_Flare_burn kw_290 kw_318 ⟨rfl, rfl, by decide⟩ kw_250 (fun a1 g1 h1 h2 => z_sub1 (hts _ kw_237) h1 h2) kw_317 (c_Flare_burn l dC dI c1 c2 c3 A aC aD aE aL k hk d kd ht tk lt rest j hj (σ.1, tb 90 σ.2) x) hK hP hD hS (j + 3) (zg hj) (zC_K hk).1 rfl hl.1 rfl (Nat.le_of_ble_eq_true rfl) ⟨Nat.le_of_ble_eq_true rfl, Nat.le_of_ble_eq_true rfl⟩ d_Outer_burn_12 ⟨Nat.le_refl _, Nat.le_refl _⟩ (fun H locs hP hD hS => ?_)
  have hP : va_P (dC, dI) classes (wl c1 c2 aC aD aE aL k d kd ht tk lt rest j ((bFlare d x (σ.1, tb 90 σ.2)).2)) H := hP
  have hD : va_D A (wl c1 c2 aC aD aE aL k d kd ht tk lt rest j ((bFlare d x (σ.1, tb 90 σ.2)).2)) := hD
  refine lv_aload_n hx hb d_Outer_burn_15 rfl (lv_at hl 0 rfl) ?_
  refine zget (ci := k) (fs := [.ref aC, .int kd, .int ht, .int tk, .int (((bFlare d x (σ.1, tb 90 σ.2)).2).1), .int lt]) E hK hP (j + 3) (zg hj) (zC_K hk) 0 (by decide) kw_100 (Or.inr kw_101) rfl d_Outer_burn_16 ?_
  refine lv_iconst (v := 1) hx hb d_Outer_burn_19 (by decide) ?_
  refine zcV (As := [.int 1]) (rest := [.int ((bFlare d x (σ.1, tb 90 σ.2)).1)]) (ci := 9) E cy_Coast_dialed kw_73 kw_74 kw_320 (c_Coast_dialed l dC dI c1 c2 c3 A aC aD aE d (rest.set j (wL aC aL k kd ht tk (((bFlare d x (σ.1, tb 90 σ.2)).2).1) lt)) (((bFlare d x (σ.1, tb 90 σ.2)).2).2) 1 1 (by decide) (by decide)) hK hP hD hS 0 rfl zC_Coast.1 rfl rfl hl.1 rfl (Nat.le_of_ble_eq_true rfl) ⟨Nat.le_of_ble_eq_true rfl, Nat.le_of_ble_eq_true rfl⟩ d_Outer_burn_20 ⟨Nat.le_refl _, Nat.le_refl _⟩ (fun H locs hP hD hS => ?_)
  have hP : va_P (dC, dI) classes (wl c1 c2 aC aD aE aL k d kd ht tk lt rest j ((bFlare d x (σ.1, tb 90 σ.2)).2)) H := hP
  have hD : va_D A (wl c1 c2 aC aD aE aL k d kd ht tk lt rest j ((bFlare d x (σ.1, tb 90 σ.2)).2)) := hD
  refine lv_isub hx hb d_Outer_burn_23 ?_
  refine lv_iconst (v := 0) hx hb d_Outer_burn_24 (by decide) ?_
  refine zmax E hl.1 kw_321 kw_322 kw_14 kw_323 (Nat.le_of_ble_eq_true rfl) (Nat.le_of_ble_eq_true rfl) ⟨Nat.le_refl _, Nat.le_refl _⟩ d_Outer_burn_25 ?_
  exact zri E hK hP hD hS d_Outer_burn_28
set_option maxHeartbeats 4000000 in
set_option maxRecDepth 100000 in
theorem c_Lamp_reach (l : Launch) (dC : Nat → ClassId) (dI : Nat → Nat → Nat) (c1 c2 c3 : ClassId) (A : Nat → Prop) (aC aD aE aL k : Nat) (hk : k < 9) (d : Nat → Int32) (kd ht tk lt : Int32) (rest : va_W) (j : Nat) (hj : j < rest.length) (σ : zS) (x : Int32) : zM l y_Lamp_reach b_Lamp_reach 2 (some (FieldType.int)) 1 22 [.ref aL, .int x] (dC, dI) (t3 c1 c2 c3) A (wl c1 c2 aC aD aE aL k d kd ht tk lt rest j σ) (wl c1 c2 aC aD aE aL k d kd ht tk lt rest j (rLamp ht x σ).2) (some (.int (rLamp ht x σ).1)) := by
  refine zM_of "CoastLamps$Lamp" rfl (by decide) (Nat.le_of_ble_eq_true rfl) ?_
  intro p e s m below meth c ls E hP hK hD hS hl
  obtain ⟨hx, hb, hml, ho, hts, hr, hlk⟩ := id E
  have hl : lv_has ls 2 [(0, .ref aL), (1, .int x)] := hl
  refine lv_aload_n hx hb d_Lamp_reach_0 rfl (lv_at hl 0 rfl) ?_
  refine zget (ci := k) (fs := [.ref aC, .int kd, .int ht, .int tk, .int σ.1, .int lt]) E hK hP (j + 3) (zg hj) (zC_K hk) 0 (by decide) kw_97 (Or.inl rfl) rfl d_Lamp_reach_1 ?_
  refine lv_iconst (v := 0) hx hb d_Lamp_reach_4 (by decide) ?_
  refine lv_iconst (v := 1) hx hb d_Lamp_reach_5 (by decide) ?_
  refine zcV (As := [.int 0, .int 1]) (rest := []) (ci := 9) E cy_Coast_begins kw_293 kw_294 kw_334 (c_Coast_begins l dC dI c1 c2 c3 A aC aD aE d (rest.set j (wL aC aL k kd ht tk σ.1 lt)) σ.2 0 1 1 (by decide)) hK hP hD hS 0 rfl zC_Coast.1 rfl rfl hl.1 rfl (Nat.le_of_ble_eq_true rfl) ⟨Nat.le_of_ble_eq_true rfl, Nat.le_of_ble_eq_true rfl⟩ d_Lamp_reach_6 ⟨Nat.le_refl _, Nat.le_refl _⟩ (fun H locs hP hD hS => ?_)
  have hP : va_P (dC, dI) classes (wl c1 c2 aC aD aE aL k d kd ht tk lt rest j (σ.1, tb 1 σ.2)) H := hP
  have hD : va_D A (wl c1 c2 aC aD aE aL k d kd ht tk lt rest j (σ.1, tb 1 σ.2)) := hD
  refine lv_aload_n hx hb d_Lamp_reach_9 rfl (lv_at hl 0 rfl) ?_
  refine zget (ci := k) (fs := [.ref aC, .int kd, .int ht, .int tk, .int σ.1, .int lt]) E hK hP (j + 3) (zg hj) (zC_K hk) 2 (by decide) kw_118 (Or.inl rfl) rfl d_Lamp_reach_10 ?_
  refine lv_bipush (v := 10) hx hb d_Lamp_reach_13 (by decide) ?_
  refine lv_idiv hx hb d_Lamp_reach_15 (by decide) ?_
  refine lv_bipush (v := 30) hx hb d_Lamp_reach_16 (by decide) ?_
  refine lv_iadd hx hb d_Lamp_reach_18 ?_
  refine lv_iconst (v := 3) hx hb d_Lamp_reach_19 (by decide) ?_
  refine lv_iload_n hx hb d_Lamp_reach_20 rfl (lv_at hl 1 rfl) ?_
  refine lv_imul hx hb d_Lamp_reach_21 ?_
  refine lv_isub hx hb d_Lamp_reach_22 ?_
  exact zri E hK hP hD hS d_Lamp_reach_23
set_option maxHeartbeats 4000000 in
set_option maxRecDepth 100000 in
theorem c_Round_reach (l : Launch) (dC : Nat → ClassId) (dI : Nat → Nat → Nat) (c1 c2 c3 : ClassId) (A : Nat → Prop) (aC aD aE aL k : Nat) (hk : k < 9) (d : Nat → Int32) (kd ht tk lt : Int32) (rest : va_W) (j : Nat) (hj : j < rest.length) (σ : zS) (x : Int32) : zM l y_Round_reach b_Round_reach 2 (some (FieldType.int)) 2 43 [.ref aL, .int x] (dC, dI) (t3 c1 c2 c3) A (wl c1 c2 aC aD aE aL k d kd ht tk lt rest j σ) (wl c1 c2 aC aD aE aL k d kd ht tk lt rest j (rRound d ht x σ).2) (some (.int (rRound d ht x σ).1)) := by
  refine zM_of "CoastLamps$Round" rfl (by decide) (Nat.le_of_ble_eq_true rfl) ?_
  intro p e s m below meth c ls E hP hK hD hS hl
  obtain ⟨hx, hb, hml, ho, hts, hr, hlk⟩ := id E
  have hl : lv_has ls 2 [(0, .ref aL), (1, .int x)] := hl
  refine lv_aload_n hx hb d_Round_reach_0 rfl (lv_at hl 0 rfl) ?_
  refine zget (ci := k) (fs := [.ref aC, .int kd, .int ht, .int tk, .int σ.1, .int lt]) E hK hP (j + 3) (zg hj) (zC_K hk) 0 (by decide) kw_110 (Or.inr kw_111) rfl d_Round_reach_1 ?_
  refine lv_iconst (v := 2) hx hb d_Round_reach_4 (by decide) ?_
  refine lv_iconst (v := 1) hx hb d_Round_reach_5 (by decide) ?_
  refine zcV (As := [.int 2, .int 1]) (rest := []) (ci := 9) E cy_Coast_begins kw_293 kw_294 kw_360 (c_Coast_begins l dC dI c1 c2 c3 A aC aD aE d (rest.set j (wL aC aL k kd ht tk σ.1 lt)) σ.2 2 1 21 (by decide)) hK hP hD hS 0 rfl zC_Coast.1 rfl rfl hl.1 rfl (Nat.le_of_ble_eq_true rfl) ⟨Nat.le_of_ble_eq_true rfl, Nat.le_of_ble_eq_true rfl⟩ d_Round_reach_6 ⟨Nat.le_refl _, Nat.le_refl _⟩ (fun H locs hP hD hS => ?_)
  have hP : va_P (dC, dI) classes (wl c1 c2 aC aD aE aL k d kd ht tk lt rest j (σ.1, tb 21 σ.2)) H := hP
  have hD : va_D A (wl c1 c2 aC aD aE aL k d kd ht tk lt rest j (σ.1, tb 21 σ.2)) := hD
  refine lv_aload_n hx hb d_Round_reach_9 rfl (lv_at hl 0 rfl) ?_
  refine lv_iload_n hx hb d_Round_reach_10 rfl (lv_at hl 1 rfl) ?_
  refine zcP (x := ⟨"CoastLamps$Oil", "reach", "(I)I"⟩) (As := [.int x]) (rest := []) (ci := k) E cy_Lamp_reach kw_337 kw_362 ⟨rfl, rfl, by decide⟩ kw_159 (fun a1 g1 h1 h2 => z_sub1 (hts _ kw_146) h1 h2) kw_361 (c_Lamp_reach l dC dI c1 c2 c3 A aC aD aE aL k hk d kd ht tk lt rest j hj (σ.1, tb 21 σ.2) x) hK hP hD hS (j + 3) (zg hj) (zC_K hk).1 rfl hl.1 rfl (Nat.le_of_ble_eq_true rfl) ⟨Nat.le_of_ble_eq_true rfl, Nat.le_of_ble_eq_true rfl⟩ d_Round_reach_11 ⟨Nat.le_refl _, Nat.le_refl _⟩ (fun H locs hP hD hS => ?_)
  have hP : va_P (dC, dI) classes (wl c1 c2 aC aD aE aL k d kd ht tk lt rest j ((rLamp ht x (σ.1, tb 21 σ.2)).2)) H := hP
  have hD : va_D A (wl c1 c2 aC aD aE aL k d kd ht tk lt rest j ((rLamp ht x (σ.1, tb 21 σ.2)).2)) := hD
  refine lv_aload_n hx hb d_Round_reach_14 rfl (lv_at hl 0 rfl) ?_
  refine zget (ci := k) (fs := [.ref aC, .int kd, .int ht, .int tk, .int (((rLamp ht x (σ.1, tb 21 σ.2)).2).1), .int lt]) E hK hP (j + 3) (zg hj) (zC_K hk) 0 (by decide) kw_110 (Or.inr kw_111) rfl d_Round_reach_15 ?_
  refine lv_iconst (v := 2) hx hb d_Round_reach_18 (by decide) ?_
  refine zcV (As := [.int 2]) (rest := [.int ((rLamp ht x (σ.1, tb 21 σ.2)).1)]) (ci := 9) E cy_Coast_dialed kw_73 kw_74 kw_364 (c_Coast_dialed l dC dI c1 c2 c3 A aC aD aE d (rest.set j (wL aC aL k kd ht tk (((rLamp ht x (σ.1, tb 21 σ.2)).2).1) lt)) (((rLamp ht x (σ.1, tb 21 σ.2)).2).2) 2 2 (by decide) (by decide)) hK hP hD hS 0 rfl zC_Coast.1 rfl rfl hl.1 rfl (Nat.le_of_ble_eq_true rfl) ⟨Nat.le_of_ble_eq_true rfl, Nat.le_of_ble_eq_true rfl⟩ d_Round_reach_19 ⟨Nat.le_refl _, Nat.le_refl _⟩ (fun H locs hP hD hS => ?_)
  have hP : va_P (dC, dI) classes (wl c1 c2 aC aD aE aL k d kd ht tk lt rest j ((rLamp ht x (σ.1, tb 21 σ.2)).2)) H := hP
  have hD : va_D A (wl c1 c2 aC aD aE aL k d kd ht tk lt rest j ((rLamp ht x (σ.1, tb 21 σ.2)).2)) := hD
  refine lv_iadd hx hb d_Round_reach_22 ?_
  exact zri E hK hP hD hS d_Round_reach_23
set_option maxHeartbeats 4000000 in
set_option maxRecDepth 100000 in
theorem c_Twin_reach (l : Launch) (dC : Nat → ClassId) (dI : Nat → Nat → Nat) (c1 c2 c3 : ClassId) (A : Nat → Prop) (aC aD aE aL k : Nat) (hk : k < 9) (d : Nat → Int32) (kd ht tk lt : Int32) (rest : va_W) (j : Nat) (hj : j < rest.length) (σ : zS) (x : Int32) : zM l y_Twin_reach b_Twin_reach 3 (some (FieldType.int)) 3 64 [.ref aL, .int x] (dC, dI) (t3 c1 c2 c3) A (wl c1 c2 aC aD aE aL k d kd ht tk lt rest j σ) (wl c1 c2 aC aD aE aL k d kd ht tk lt rest j (rTwin d ht x σ).2) (some (.int (rTwin d ht x σ).1)) := by
  refine zM_of "CoastLamps$Twin" rfl (by decide) (Nat.le_of_ble_eq_true rfl) ?_
  intro p e s m below meth c ls E hP hK hD hS hl
  obtain ⟨hx, hb, hml, ho, hts, hr, hlk⟩ := id E
  have hl : lv_has ls 3 [(0, .ref aL), (1, .int x)] := hl
  refine lv_aload_n hx hb d_Twin_reach_0 rfl (lv_at hl 0 rfl) ?_
  refine zget (ci := k) (fs := [.ref aC, .int kd, .int ht, .int tk, .int σ.1, .int lt]) E hK hP (j + 3) (zg hj) (zC_K hk) 0 (by decide) kw_114 (Or.inr kw_115) rfl d_Twin_reach_1 ?_
  refine lv_iconst (v := 3) hx hb d_Twin_reach_4 (by decide) ?_
  refine lv_iconst (v := 1) hx hb d_Twin_reach_5 (by decide) ?_
  refine zcV (As := [.int 3, .int 1]) (rest := []) (ci := 9) E cy_Coast_begins kw_293 kw_294 kw_302 (c_Coast_begins l dC dI c1 c2 c3 A aC aD aE d (rest.set j (wL aC aL k kd ht tk σ.1 lt)) σ.2 3 1 31 (by decide)) hK hP hD hS 0 rfl zC_Coast.1 rfl rfl hl.1 rfl (Nat.le_of_ble_eq_true rfl) ⟨Nat.le_of_ble_eq_true rfl, Nat.le_of_ble_eq_true rfl⟩ d_Twin_reach_6 ⟨Nat.le_refl _, Nat.le_refl _⟩ (fun H locs hP hD hS => ?_)
  have hP : va_P (dC, dI) classes (wl c1 c2 aC aD aE aL k d kd ht tk lt rest j (σ.1, tb 31 σ.2)) H := hP
  have hD : va_D A (wl c1 c2 aC aD aE aL k d kd ht tk lt rest j (σ.1, tb 31 σ.2)) := hD
  refine lv_aload_n hx hb d_Twin_reach_9 rfl (lv_at hl 0 rfl) ?_
  refine lv_iload_n hx hb d_Twin_reach_10 rfl (lv_at hl 1 rfl) ?_
  refine zcP (x := ⟨"CoastLamps$Round", "reach", "(I)I"⟩) (As := [.int x]) (rest := []) (ci := k) E cy_Round_reach kw_358 kw_863 ⟨rfl, rfl, by decide⟩ kw_172 (fun a1 g1 h1 h2 => by cases h1.symm.trans h2; simp [Vm.isSubclass, Vm.isSubclassAux]) kw_357 (c_Round_reach l dC dI c1 c2 c3 A aC aD aE aL k hk d kd ht tk lt rest j hj (σ.1, tb 31 σ.2) x) hK hP hD hS (j + 3) (zg hj) (zC_K hk).1 rfl hl.1 rfl (Nat.le_of_ble_eq_true rfl) ⟨Nat.le_of_ble_eq_true rfl, Nat.le_of_ble_eq_true rfl⟩ d_Twin_reach_11 ⟨Nat.le_refl _, Nat.le_refl _⟩ (fun H locs hP hD hS => ?_)
  have hP : va_P (dC, dI) classes (wl c1 c2 aC aD aE aL k d kd ht tk lt rest j ((rRound d ht x (σ.1, tb 31 σ.2)).2)) H := hP
  have hD : va_D A (wl c1 c2 aC aD aE aL k d kd ht tk lt rest j ((rRound d ht x (σ.1, tb 31 σ.2)).2)) := hD
  refine lv_istore_n (lv' := [(2, .int ((rRound d ht x (σ.1, tb 31 σ.2)).1)), (0, .ref aL), (1, .int x)]) hx hb d_Twin_reach_14 rfl hl (by decide) rfl (fun ls hl => ?_)
  refine lv_iload_n hx hb d_Twin_reach_15 rfl (lv_at hl 0 rfl) ?_
  refine lv_aload_n hx hb d_Twin_reach_16 rfl (lv_at hl 1 rfl) ?_
  refine lv_iload_n hx hb d_Twin_reach_17 rfl (lv_at hl 2 rfl) ?_
  refine lv_iconst (v := 1) hx hb d_Twin_reach_18 (by decide) ?_
  refine lv_iadd hx hb d_Twin_reach_19 ?_
  refine zcP (x := ⟨"CoastLamps$Round", "reach", "(I)I"⟩) (As := [.int (x + 1)]) (rest := [.int ((rRound d ht x (σ.1, tb 31 σ.2)).1)]) (ci := k) E cy_Round_reach kw_358 kw_863 ⟨rfl, rfl, by decide⟩ kw_172 (fun a1 g1 h1 h2 => by cases h1.symm.trans h2; simp [Vm.isSubclass, Vm.isSubclassAux]) kw_357 (c_Round_reach l dC dI c1 c2 c3 A aC aD aE aL k hk d kd ht tk lt rest j hj ((rRound d ht x (σ.1, tb 31 σ.2)).2) (x + 1)) hK hP hD hS (j + 3) (zg hj) (zC_K hk).1 rfl hl.1 rfl (Nat.le_of_ble_eq_true rfl) ⟨Nat.le_of_ble_eq_true rfl, Nat.le_of_ble_eq_true rfl⟩ d_Twin_reach_20 ⟨Nat.le_refl _, Nat.le_refl _⟩ (fun H locs hP hD hS => ?_)
  have hP : va_P (dC, dI) classes (wl c1 c2 aC aD aE aL k d kd ht tk lt rest j ((rRound d ht (x + 1) ((rRound d ht x (σ.1, tb 31 σ.2)).2)).2)) H := hP
  have hD : va_D A (wl c1 c2 aC aD aE aL k d kd ht tk lt rest j ((rRound d ht (x + 1) ((rRound d ht x (σ.1, tb 31 σ.2)).2)).2)) := hD
  refine lv_iconst (v := 2) hx hb d_Twin_reach_23 (by decide) ?_
  refine lv_idiv hx hb d_Twin_reach_24 (by decide) ?_
  refine lv_iadd hx hb d_Twin_reach_25 ?_
  exact zri E hK hP hD hS d_Twin_reach_26
set_option maxHeartbeats 4000000 in
set_option maxRecDepth 100000 in
theorem c_Drum_reach (l : Launch) (dC : Nat → ClassId) (dI : Nat → Nat → Nat) (c1 c2 c3 : ClassId) (A : Nat → Prop) (aC aD aE aL k : Nat) (hk : k < 9) (d : Nat → Int32) (kd ht tk lt : Int32) (rest : va_W) (j : Nat) (hj : j < rest.length) (σ : zS) (x : Int32) : zM l y_Drum_reach b_Drum_reach 2 (some (FieldType.int)) 4 86 [.ref aL, .int x] (dC, dI) (t3 c1 c2 c3) A (wl c1 c2 aC aD aE aL k d kd ht tk lt rest j σ) (wl c1 c2 aC aD aE aL k d kd ht tk lt rest j (rDrum d ht x σ).2) (some (.int (rDrum d ht x σ).1)) := by
  refine zM_of "CoastLamps$Drum" rfl (by decide) (Nat.le_of_ble_eq_true rfl) ?_
  intro p e s m below meth c ls E hP hK hD hS hl
  obtain ⟨hx, hb, hml, ho, hts, hr, hlk⟩ := id E
  have hl : lv_has ls 2 [(0, .ref aL), (1, .int x)] := hl
  refine lv_aload_n hx hb d_Drum_reach_0 rfl (lv_at hl 0 rfl) ?_
  refine zget (ci := k) (fs := [.ref aC, .int kd, .int ht, .int tk, .int σ.1, .int lt]) E hK hP (j + 3) (zg hj) (zC_K hk) 0 (by decide) kw_108 (Or.inr kw_109) rfl d_Drum_reach_1 ?_
  refine lv_iconst (v := 4) hx hb d_Drum_reach_4 (by decide) ?_
  refine lv_iconst (v := 1) hx hb d_Drum_reach_5 (by decide) ?_
  refine zcV (As := [.int 4, .int 1]) (rest := []) (ci := 9) E cy_Coast_begins kw_293 kw_294 kw_353 (c_Coast_begins l dC dI c1 c2 c3 A aC aD aE d (rest.set j (wL aC aL k kd ht tk σ.1 lt)) σ.2 4 1 41 (by decide)) hK hP hD hS 0 rfl zC_Coast.1 rfl rfl hl.1 rfl (Nat.le_of_ble_eq_true rfl) ⟨Nat.le_of_ble_eq_true rfl, Nat.le_of_ble_eq_true rfl⟩ d_Drum_reach_6 ⟨Nat.le_refl _, Nat.le_refl _⟩ (fun H locs hP hD hS => ?_)
  have hP : va_P (dC, dI) classes (wl c1 c2 aC aD aE aL k d kd ht tk lt rest j (σ.1, tb 41 σ.2)) H := hP
  have hD : va_D A (wl c1 c2 aC aD aE aL k d kd ht tk lt rest j (σ.1, tb 41 σ.2)) := hD
  refine lv_aload_n hx hb d_Drum_reach_9 rfl (lv_at hl 0 rfl) ?_
  refine lv_iload_n hx hb d_Drum_reach_10 rfl (lv_at hl 1 rfl) ?_
  refine zcP (x := ⟨"CoastLamps$Twin", "reach", "(I)I"⟩) (As := [.int x]) (rest := []) (ci := k) E cy_Twin_reach kw_355 kw_862 ⟨rfl, rfl, by decide⟩ kw_185 (fun a1 g1 h1 h2 => by cases h1.symm.trans h2; simp [Vm.isSubclass, Vm.isSubclassAux]) kw_354 (c_Twin_reach l dC dI c1 c2 c3 A aC aD aE aL k hk d kd ht tk lt rest j hj (σ.1, tb 41 σ.2) x) hK hP hD hS (j + 3) (zg hj) (zC_K hk).1 rfl hl.1 rfl (Nat.le_of_ble_eq_true rfl) ⟨Nat.le_of_ble_eq_true rfl, Nat.le_of_ble_eq_true rfl⟩ d_Drum_reach_11 ⟨Nat.le_refl _, Nat.le_refl _⟩ (fun H locs hP hD hS => ?_)
  have hP : va_P (dC, dI) classes (wl c1 c2 aC aD aE aL k d kd ht tk lt rest j ((rTwin d ht x (σ.1, tb 41 σ.2)).2)) H := hP
  have hD : va_D A (wl c1 c2 aC aD aE aL k d kd ht tk lt rest j ((rTwin d ht x (σ.1, tb 41 σ.2)).2)) := hD
  refine lv_bipush (v := 20) hx hb d_Drum_reach_14 (by decide) ?_
  refine zmax E hl.1 kw_365 kw_322 kw_14 kw_323 (Nat.le_of_ble_eq_true rfl) (Nat.le_of_ble_eq_true rfl) ⟨Nat.le_refl _, Nat.le_refl _⟩ d_Drum_reach_16 ?_
  exact zri E hK hP hD hS d_Drum_reach_19
set_option maxHeartbeats 4000000 in
set_option maxRecDepth 100000 in
theorem c_Gas_reach (l : Launch) (dC : Nat → ClassId) (dI : Nat → Nat → Nat) (c1 c2 c3 : ClassId) (A : Nat → Prop) (aC aD aE aL k : Nat) (hk : k < 9) (d : Nat → Int32) (kd ht tk lt : Int32) (rest : va_W) (j : Nat) (hj : j < rest.length) (σ : zS) (x : Int32) : zM l y_Gas_reach b_Gas_reach 2 (some (FieldType.int)) 2 43 [.ref aL, .int x] (dC, dI) (t3 c1 c2 c3) A (wl c1 c2 aC aD aE aL k d kd ht tk lt rest j σ) (wl c1 c2 aC aD aE aL k d kd ht tk lt rest j (rGas ht x σ).2) (some (.int (rGas ht x σ).1)) := by
  refine zM_of "CoastLamps$Gas" rfl (by decide) (Nat.le_of_ble_eq_true rfl) ?_
  intro p e s m below meth c ls E hP hK hD hS hl
  obtain ⟨hx, hb, hml, ho, hts, hr, hlk⟩ := id E
  have hl : lv_has ls 2 [(0, .ref aL), (1, .int x)] := hl
  refine lv_aload_n hx hb d_Gas_reach_0 rfl (lv_at hl 0 rfl) ?_
  refine zget (ci := k) (fs := [.ref aC, .int kd, .int ht, .int tk, .int σ.1, .int lt]) E hK hP (j + 3) (zg hj) (zC_K hk) 0 (by decide) kw_106 (Or.inr kw_107) rfl d_Gas_reach_1 ?_
  refine lv_bipush (v := 6) hx hb d_Gas_reach_4 (by decide) ?_
  refine lv_iconst (v := 1) hx hb d_Gas_reach_6 (by decide) ?_
  refine zcV (As := [.int 6, .int 1]) (rest := []) (ci := 9) E cy_Coast_begins kw_293 kw_294 kw_348 (c_Coast_begins l dC dI c1 c2 c3 A aC aD aE d (rest.set j (wL aC aL k kd ht tk σ.1 lt)) σ.2 6 1 61 (by decide)) hK hP hD hS 0 rfl zC_Coast.1 rfl rfl hl.1 rfl (Nat.le_of_ble_eq_true rfl) ⟨Nat.le_of_ble_eq_true rfl, Nat.le_of_ble_eq_true rfl⟩ d_Gas_reach_7 ⟨Nat.le_refl _, Nat.le_refl _⟩ (fun H locs hP hD hS => ?_)
  have hP : va_P (dC, dI) classes (wl c1 c2 aC aD aE aL k d kd ht tk lt rest j (σ.1, tb 61 σ.2)) H := hP
  have hD : va_D A (wl c1 c2 aC aD aE aL k d kd ht tk lt rest j (σ.1, tb 61 σ.2)) := hD
  refine lv_aload_n hx hb d_Gas_reach_10 rfl (lv_at hl 0 rfl) ?_
  refine lv_iload_n hx hb d_Gas_reach_11 rfl (lv_at hl 1 rfl) ?_
  refine zcP (x := ⟨"CoastLamps$Lamp", "reach", "(I)I"⟩) (As := [.int x]) (rest := []) (ci := k) E cy_Lamp_reach kw_337 kw_338 ⟨rfl, rfl, by decide⟩ kw_211 (fun a1 g1 h1 h2 => by cases h1.symm.trans h2; simp [Vm.isSubclass, Vm.isSubclassAux]) kw_349 (c_Lamp_reach l dC dI c1 c2 c3 A aC aD aE aL k hk d kd ht tk lt rest j hj (σ.1, tb 61 σ.2) x) hK hP hD hS (j + 3) (zg hj) (zC_K hk).1 rfl hl.1 rfl (Nat.le_of_ble_eq_true rfl) ⟨Nat.le_of_ble_eq_true rfl, Nat.le_of_ble_eq_true rfl⟩ d_Gas_reach_12 ⟨Nat.le_refl _, Nat.le_refl _⟩ (fun H locs hP hD hS => ?_)
  have hP : va_P (dC, dI) classes (wl c1 c2 aC aD aE aL k d kd ht tk lt rest j ((rLamp ht x (σ.1, tb 61 σ.2)).2)) H := hP
  have hD : va_D A (wl c1 c2 aC aD aE aL k d kd ht tk lt rest j ((rLamp ht x (σ.1, tb 61 σ.2)).2)) := hD
  refine lv_aload_n hx hb d_Gas_reach_15 rfl (lv_at hl 0 rfl) ?_
  refine zget (ci := k) (fs := [.ref aC, .int kd, .int ht, .int tk, .int (((rLamp ht x (σ.1, tb 61 σ.2)).2).1), .int lt]) E hK hP (j + 3) (zg hj) (zC_K hk) 4 (by decide) kw_124 (Or.inr kw_125) rfl d_Gas_reach_16 ?_
  refine lv_bipush (v := 10) hx hb d_Gas_reach_19 (by decide) ?_
  refine lv_idiv hx hb d_Gas_reach_21 (by decide) ?_
  refine lv_isub hx hb d_Gas_reach_22 ?_
  exact zri E hK hP hD hS d_Gas_reach_23
set_option maxHeartbeats 4000000 in
set_option maxRecDepth 100000 in
theorem c_Buoy_reach (l : Launch) (dC : Nat → ClassId) (dI : Nat → Nat → Nat) (c1 c2 c3 : ClassId) (A : Nat → Prop) (aC aD aE aL k : Nat) (hk : k < 9) (d : Nat → Int32) (kd ht tk lt : Int32) (rest : va_W) (j : Nat) (hj : j < rest.length) (σ : zS) (x : Int32) : zM l y_Buoy_reach b_Buoy_reach 2 (some (FieldType.int)) 3 64 [.ref aL, .int x] (dC, dI) (t3 c1 c2 c3) A (wl c1 c2 aC aD aE aL k d kd ht tk lt rest j σ) (wl c1 c2 aC aD aE aL k d kd ht tk lt rest j (rBuoy ht x σ).2) (some (.int (rBuoy ht x σ).1)) := by
  refine zM_of "CoastLamps$Buoy" rfl (by decide) (Nat.le_of_ble_eq_true rfl) ?_
  intro p e s m below meth c ls E hP hK hD hS hl
  obtain ⟨hx, hb, hml, ho, hts, hr, hlk⟩ := id E
  have hl : lv_has ls 2 [(0, .ref aL), (1, .int x)] := hl
  refine lv_aload_n hx hb d_Buoy_reach_0 rfl (lv_at hl 0 rfl) ?_
  refine zget (ci := k) (fs := [.ref aC, .int kd, .int ht, .int tk, .int σ.1, .int lt]) E hK hP (j + 3) (zg hj) (zC_K hk) 0 (by decide) kw_104 (Or.inr kw_105) rfl d_Buoy_reach_1 ?_
  refine lv_bipush (v := 8) hx hb d_Buoy_reach_4 (by decide) ?_
  refine lv_iconst (v := 1) hx hb d_Buoy_reach_6 (by decide) ?_
  refine zcV (As := [.int 8, .int 1]) (rest := []) (ci := 9) E cy_Coast_begins kw_293 kw_294 kw_342 (c_Coast_begins l dC dI c1 c2 c3 A aC aD aE d (rest.set j (wL aC aL k kd ht tk σ.1 lt)) σ.2 8 1 81 (by decide)) hK hP hD hS 0 rfl zC_Coast.1 rfl rfl hl.1 rfl (Nat.le_of_ble_eq_true rfl) ⟨Nat.le_of_ble_eq_true rfl, Nat.le_of_ble_eq_true rfl⟩ d_Buoy_reach_7 ⟨Nat.le_refl _, Nat.le_refl _⟩ (fun H locs hP hD hS => ?_)
  have hP : va_P (dC, dI) classes (wl c1 c2 aC aD aE aL k d kd ht tk lt rest j (σ.1, tb 81 σ.2)) H := hP
  have hD : va_D A (wl c1 c2 aC aD aE aL k d kd ht tk lt rest j (σ.1, tb 81 σ.2)) := hD
  refine lv_aload_n hx hb d_Buoy_reach_10 rfl (lv_at hl 0 rfl) ?_
  refine lv_iload_n hx hb d_Buoy_reach_11 rfl (lv_at hl 1 rfl) ?_
  refine zcP (x := ⟨"CoastLamps$Flare", "reach", "(I)I"⟩) (As := [.int x]) (rest := []) (ci := k) E cy_Gas_reach kw_346 kw_344 ⟨rfl, rfl, by decide⟩ kw_237 (fun a1 g1 h1 h2 => z_sub1 (hts _ kw_224) h1 h2) kw_343 (c_Gas_reach l dC dI c1 c2 c3 A aC aD aE aL k hk d kd ht tk lt rest j hj (σ.1, tb 81 σ.2) x) hK hP hD hS (j + 3) (zg hj) (zC_K hk).1 rfl hl.1 rfl (Nat.le_of_ble_eq_true rfl) ⟨Nat.le_of_ble_eq_true rfl, Nat.le_of_ble_eq_true rfl⟩ d_Buoy_reach_12 ⟨Nat.le_refl _, Nat.le_refl _⟩ (fun H locs hP hD hS => ?_)
  have hP : va_P (dC, dI) classes (wl c1 c2 aC aD aE aL k d kd ht tk lt rest j ((rGas ht x (σ.1, tb 81 σ.2)).2)) H := hP
  have hD : va_D A (wl c1 c2 aC aD aE aL k d kd ht tk lt rest j ((rGas ht x (σ.1, tb 81 σ.2)).2)) := hD
  refine lv_iconst (v := 2) hx hb d_Buoy_reach_15 (by decide) ?_
  refine lv_idiv hx hb d_Buoy_reach_16 (by decide) ?_
  exact zri E hK hP hD hS d_Buoy_reach_17
set_option maxHeartbeats 4000000 in
set_option maxRecDepth 100000 in
theorem c_Lamp_flash (l : Launch) (dC : Nat → ClassId) (dI : Nat → Nat → Nat) (c1 c2 c3 : ClassId) (A : Nat → Prop) (aC aD aE aL k : Nat) (hk : k < 9) (d : Nat → Int32) (kd ht tk lt : Int32) (rest : va_W) (j : Nat) (hj : j < rest.length) (σ : zS) (x : Int32) : zM l y_Lamp_flash b_Lamp_flash 2 (some (FieldType.int)) 1 22 [.ref aL, .int x] (dC, dI) (t3 c1 c2 c3) A (wl c1 c2 aC aD aE aL k d kd ht tk lt rest j σ) (wl c1 c2 aC aD aE aL k d kd ht tk lt rest j (fLamp σ).2) (some (.int (fLamp σ).1)) := by
  refine zM_of "CoastLamps$Lamp" rfl (by decide) (Nat.le_of_ble_eq_true rfl) ?_
  intro p e s m below meth c ls E hP hK hD hS hl
  obtain ⟨hx, hb, hml, ho, hts, hr, hlk⟩ := id E
  have hl : lv_has ls 2 [(0, .ref aL), (1, .int x)] := hl
  refine lv_aload_n hx hb d_Lamp_flash_0 rfl (lv_at hl 0 rfl) ?_
  refine zget (ci := k) (fs := [.ref aC, .int kd, .int ht, .int tk, .int σ.1, .int lt]) E hK hP (j + 3) (zg hj) (zC_K hk) 0 (by decide) kw_97 (Or.inl rfl) rfl d_Lamp_flash_1 ?_
  refine lv_iconst (v := 0) hx hb d_Lamp_flash_4 (by decide) ?_
  refine lv_iconst (v := 2) hx hb d_Lamp_flash_5 (by decide) ?_
  refine zcV (As := [.int 0, .int 2]) (rest := []) (ci := 9) E cy_Coast_begins kw_293 kw_294 kw_334 (c_Coast_begins l dC dI c1 c2 c3 A aC aD aE d (rest.set j (wL aC aL k kd ht tk σ.1 lt)) σ.2 0 2 2 (by decide)) hK hP hD hS 0 rfl zC_Coast.1 rfl rfl hl.1 rfl (Nat.le_of_ble_eq_true rfl) ⟨Nat.le_of_ble_eq_true rfl, Nat.le_of_ble_eq_true rfl⟩ d_Lamp_flash_6 ⟨Nat.le_refl _, Nat.le_refl _⟩ (fun H locs hP hD hS => ?_)
  have hP : va_P (dC, dI) classes (wl c1 c2 aC aD aE aL k d kd ht tk lt rest j (σ.1, tb 2 σ.2)) H := hP
  have hD : va_D A (wl c1 c2 aC aD aE aL k d kd ht tk lt rest j (σ.1, tb 2 σ.2)) := hD
  refine lv_bipush (v := 100) hx hb d_Lamp_flash_9 (by decide) ?_
  exact zri E hK hP hD hS d_Lamp_flash_11
set_option maxHeartbeats 4000000 in
set_option maxRecDepth 100000 in
theorem c_Twin_flash (l : Launch) (dC : Nat → ClassId) (dI : Nat → Nat → Nat) (c1 c2 c3 : ClassId) (A : Nat → Prop) (aC aD aE aL k : Nat) (hk : k < 9) (d : Nat → Int32) (kd ht tk lt : Int32) (rest : va_W) (j : Nat) (hj : j < rest.length) (σ : zS) (x : Int32) : zM l y_Twin_flash b_Twin_flash 2 (some (FieldType.int)) 2 43 [.ref aL, .int x] (dC, dI) (t3 c1 c2 c3) A (wl c1 c2 aC aD aE aL k d kd ht tk lt rest j σ) (wl c1 c2 aC aD aE aL k d kd ht tk lt rest j (fTwin x σ).2) (some (.int (fTwin x σ).1)) := by
  by_cases h1 : x &&& 3 = 0
  · have e9 : fTwin x σ = (0, (σ.1, tb 32 σ.2)) := by unfold fTwin; rw [if_pos h1]
    rw [e9]
    refine zM_of "CoastLamps$Twin" rfl (by decide) (Nat.le_of_ble_eq_true rfl) ?_
    intro p e s m below meth c ls E hP hK hD hS hl
    obtain ⟨hx, hb, hml, ho, hts, hr, hlk⟩ := id E
    have hl : lv_has ls 2 [(0, .ref aL), (1, .int x)] := hl
    refine lv_aload_n hx hb d_Twin_flash_0 rfl (lv_at hl 0 rfl) ?_
    refine zget (ci := k) (fs := [.ref aC, .int kd, .int ht, .int tk, .int σ.1, .int lt]) E hK hP (j + 3) (zg hj) (zC_K hk) 0 (by decide) kw_114 (Or.inr kw_115) rfl d_Twin_flash_1 ?_
    refine lv_iconst (v := 3) hx hb d_Twin_flash_4 (by decide) ?_
    refine lv_iconst (v := 2) hx hb d_Twin_flash_5 (by decide) ?_
    refine zcV (As := [.int 3, .int 2]) (rest := []) (ci := 9) E cy_Coast_begins kw_293 kw_294 kw_302 (c_Coast_begins l dC dI c1 c2 c3 A aC aD aE d (rest.set j (wL aC aL k kd ht tk σ.1 lt)) σ.2 3 2 32 (by decide)) hK hP hD hS 0 rfl zC_Coast.1 rfl rfl hl.1 rfl (Nat.le_of_ble_eq_true rfl) ⟨Nat.le_of_ble_eq_true rfl, Nat.le_of_ble_eq_true rfl⟩ d_Twin_flash_6 ⟨Nat.le_refl _, Nat.le_refl _⟩ (fun H locs hP hD hS => ?_)
    have hP : va_P (dC, dI) classes (wl c1 c2 aC aD aE aL k d kd ht tk lt rest j (σ.1, tb 32 σ.2)) H := hP
    have hD : va_D A (wl c1 c2 aC aD aE aL k d kd ht tk lt rest j (σ.1, tb 32 σ.2)) := hD
    refine lv_iload_n hx hb d_Twin_flash_9 rfl (lv_at hl 1 rfl) ?_
    refine lv_iconst (v := 3) hx hb d_Twin_flash_10 (by decide) ?_
    refine lv_iand hx hb d_Twin_flash_11 ?_
    refine lv_if_ne (tgt := 19) hx hb d_Twin_flash_12 (by decide) (fun h9 => absurd (h1) h9) (fun _ => ?_)
    refine lv_iconst (v := 0) hx hb d_Twin_flash_15 (by decide) ?_
    refine lv_goto (tgt := 24) hx hb d_Twin_flash_16 (by decide) ?_
    exact zri E hK hP hD hS d_Twin_flash_24
  · have e9 : fTwin x σ = fLamp (σ.1, tb 32 σ.2) := by unfold fTwin; rw [if_neg h1]
    rw [e9]
    refine zM_of "CoastLamps$Twin" rfl (by decide) (Nat.le_of_ble_eq_true rfl) ?_
    intro p e s m below meth c ls E hP hK hD hS hl
    obtain ⟨hx, hb, hml, ho, hts, hr, hlk⟩ := id E
    have hl : lv_has ls 2 [(0, .ref aL), (1, .int x)] := hl
    refine lv_aload_n hx hb d_Twin_flash_0 rfl (lv_at hl 0 rfl) ?_
    refine zget (ci := k) (fs := [.ref aC, .int kd, .int ht, .int tk, .int σ.1, .int lt]) E hK hP (j + 3) (zg hj) (zC_K hk) 0 (by decide) kw_114 (Or.inr kw_115) rfl d_Twin_flash_1 ?_
    refine lv_iconst (v := 3) hx hb d_Twin_flash_4 (by decide) ?_
    refine lv_iconst (v := 2) hx hb d_Twin_flash_5 (by decide) ?_
    refine zcV (As := [.int 3, .int 2]) (rest := []) (ci := 9) E cy_Coast_begins kw_293 kw_294 kw_302 (c_Coast_begins l dC dI c1 c2 c3 A aC aD aE d (rest.set j (wL aC aL k kd ht tk σ.1 lt)) σ.2 3 2 32 (by decide)) hK hP hD hS 0 rfl zC_Coast.1 rfl rfl hl.1 rfl (Nat.le_of_ble_eq_true rfl) ⟨Nat.le_of_ble_eq_true rfl, Nat.le_of_ble_eq_true rfl⟩ d_Twin_flash_6 ⟨Nat.le_refl _, Nat.le_refl _⟩ (fun H locs hP hD hS => ?_)
    have hP : va_P (dC, dI) classes (wl c1 c2 aC aD aE aL k d kd ht tk lt rest j (σ.1, tb 32 σ.2)) H := hP
    have hD : va_D A (wl c1 c2 aC aD aE aL k d kd ht tk lt rest j (σ.1, tb 32 σ.2)) := hD
    refine lv_iload_n hx hb d_Twin_flash_9 rfl (lv_at hl 1 rfl) ?_
    refine lv_iconst (v := 3) hx hb d_Twin_flash_10 (by decide) ?_
    refine lv_iand hx hb d_Twin_flash_11 ?_
    refine lv_if_ne (tgt := 19) hx hb d_Twin_flash_12 (by decide) (fun _ => ?_) (fun h9 => absurd h9 (h1))
    refine lv_aload_n hx hb d_Twin_flash_19 rfl (lv_at hl 0 rfl) ?_
    refine lv_iload_n hx hb d_Twin_flash_20 rfl (lv_at hl 1 rfl) ?_
    refine zcP (x := ⟨"CoastLamps$Round", "flash", "(I)I"⟩) (As := [.int x]) (rest := []) (ci := k) E cy_Lamp_flash kw_375 kw_387 ⟨rfl, rfl, by decide⟩ kw_172 (fun a1 g1 h1 h2 => z_sub2 (hts _ kw_159) (hts _ kw_146) h1 h2) kw_386 (c_Lamp_flash l dC dI c1 c2 c3 A aC aD aE aL k hk d kd ht tk lt rest j hj (σ.1, tb 32 σ.2) x) hK hP hD hS (j + 3) (zg hj) (zC_K hk).1 rfl hl.1 rfl (Nat.le_of_ble_eq_true rfl) ⟨Nat.le_of_ble_eq_true rfl, Nat.le_of_ble_eq_true rfl⟩ d_Twin_flash_21 ⟨Nat.le_refl _, Nat.le_refl _⟩ (fun H locs hP hD hS => ?_)
    have hP : va_P (dC, dI) classes (wl c1 c2 aC aD aE aL k d kd ht tk lt rest j ((fLamp (σ.1, tb 32 σ.2)).2)) H := hP
    have hD : va_D A (wl c1 c2 aC aD aE aL k d kd ht tk lt rest j ((fLamp (σ.1, tb 32 σ.2)).2)) := hD
    exact zri E hK hP hD hS d_Twin_flash_24
set_option maxHeartbeats 4000000 in
set_option maxRecDepth 100000 in
theorem c_Swing_flash (l : Launch) (dC : Nat → ClassId) (dI : Nat → Nat → Nat) (c1 c2 c3 : ClassId) (A : Nat → Prop) (aC aD aE aL k : Nat) (hk : k < 9) (d : Nat → Int32) (kd ht tk lt : Int32) (rest : va_W) (j : Nat) (hj : j < rest.length) (σ : zS) (x : Int32) : zM l y_Swing_flash b_Swing_flash 2 (some (FieldType.int)) 3 64 [.ref aL, .int x] (dC, dI) (t3 c1 c2 c3) A (wl c1 c2 aC aD aE aL k d kd ht tk lt rest j σ) (wl c1 c2 aC aD aE aL k d kd ht tk lt rest j (fSwing x σ).2) (some (.int (fSwing x σ).1)) := by
  refine zM_of "CoastLamps$Swing" rfl (by decide) (Nat.le_of_ble_eq_true rfl) ?_
  intro p e s m below meth c ls E hP hK hD hS hl
  obtain ⟨hx, hb, hml, ho, hts, hr, hlk⟩ := id E
  have hl : lv_has ls 2 [(0, .ref aL), (1, .int x)] := hl
  refine lv_aload_n hx hb d_Swing_flash_0 rfl (lv_at hl 0 rfl) ?_
  refine zget (ci := k) (fs := [.ref aC, .int kd, .int ht, .int tk, .int σ.1, .int lt]) E hK hP (j + 3) (zg hj) (zC_K hk) 0 (by decide) kw_102 (Or.inr kw_103) rfl d_Swing_flash_1 ?_
  refine lv_iconst (v := 5) hx hb d_Swing_flash_4 (by decide) ?_
  refine lv_iconst (v := 2) hx hb d_Swing_flash_5 (by decide) ?_
  refine zcV (As := [.int 5, .int 2]) (rest := []) (ci := 9) E cy_Coast_begins kw_293 kw_294 kw_328 (c_Coast_begins l dC dI c1 c2 c3 A aC aD aE d (rest.set j (wL aC aL k kd ht tk σ.1 lt)) σ.2 5 2 52 (by decide)) hK hP hD hS 0 rfl zC_Coast.1 rfl rfl hl.1 rfl (Nat.le_of_ble_eq_true rfl) ⟨Nat.le_of_ble_eq_true rfl, Nat.le_of_ble_eq_true rfl⟩ d_Swing_flash_6 ⟨Nat.le_refl _, Nat.le_refl _⟩ (fun H locs hP hD hS => ?_)
  have hP : va_P (dC, dI) classes (wl c1 c2 aC aD aE aL k d kd ht tk lt rest j (σ.1, tb 52 σ.2)) H := hP
  have hD : va_D A (wl c1 c2 aC aD aE aL k d kd ht tk lt rest j (σ.1, tb 52 σ.2)) := hD
  refine lv_aload_n hx hb d_Swing_flash_9 rfl (lv_at hl 0 rfl) ?_
  refine lv_iload_n hx hb d_Swing_flash_10 rfl (lv_at hl 1 rfl) ?_
  refine lv_iconst (v := 3) hx hb d_Swing_flash_11 (by decide) ?_
  refine lv_idiv hx hb d_Swing_flash_12 (by decide) ?_
  refine zcP (x := ⟨"CoastLamps$Drum", "flash", "(I)I"⟩) (As := [.int (x / 3)]) (rest := []) (ci := k) E cy_Twin_flash kw_384 kw_402 ⟨rfl, rfl, by decide⟩ kw_198 (fun a1 g1 h1 h2 => z_sub1 (hts _ kw_185) h1 h2) kw_401 (c_Twin_flash l dC dI c1 c2 c3 A aC aD aE aL k hk d kd ht tk lt rest j hj (σ.1, tb 52 σ.2) (x / 3)) hK hP hD hS (j + 3) (zg hj) (zC_K hk).1 rfl hl.1 rfl (Nat.le_of_ble_eq_true rfl) ⟨Nat.le_of_ble_eq_true rfl, Nat.le_of_ble_eq_true rfl⟩ d_Swing_flash_13 ⟨Nat.le_refl _, Nat.le_refl _⟩ (fun H locs hP hD hS => ?_)
  have hP : va_P (dC, dI) classes (wl c1 c2 aC aD aE aL k d kd ht tk lt rest j ((fTwin (x / 3) (σ.1, tb 52 σ.2)).2)) H := hP
  have hD : va_D A (wl c1 c2 aC aD aE aL k d kd ht tk lt rest j ((fTwin (x / 3) (σ.1, tb 52 σ.2)).2)) := hD
  exact zri E hK hP hD hS d_Swing_flash_16
set_option maxHeartbeats 4000000 in
set_option maxRecDepth 100000 in
theorem c_Flare_flash (l : Launch) (dC : Nat → ClassId) (dI : Nat → Nat → Nat) (c1 c2 c3 : ClassId) (A : Nat → Prop) (aC aD aE aL k : Nat) (hk : k < 9) (d : Nat → Int32) (kd ht tk lt : Int32) (rest : va_W) (j : Nat) (hj : j < rest.length) (σ : zS) (x : Int32) : zM l y_Flare_flash b_Flare_flash 2 (some (FieldType.int)) 2 43 [.ref aL, .int x] (dC, dI) (t3 c1 c2 c3) A (wl c1 c2 aC aD aE aL k d kd ht tk lt rest j σ) (wl c1 c2 aC aD aE aL k d kd ht tk lt rest j (fFlare x σ).2) (some (.int (fFlare x σ).1)) := by
  by_cases h1 : x &&& 1 = 0
  · have e9 : fFlare x σ = fLamp (σ.1, tb 72 σ.2) := by unfold fFlare; rw [if_pos h1]
    rw [e9]
    refine zM_of "CoastLamps$Flare" rfl (by decide) (Nat.le_of_ble_eq_true rfl) ?_
    intro p e s m below meth c ls E hP hK hD hS hl
    obtain ⟨hx, hb, hml, ho, hts, hr, hlk⟩ := id E
    have hl : lv_has ls 2 [(0, .ref aL), (1, .int x)] := hl
    refine lv_aload_n hx hb d_Flare_flash_0 rfl (lv_at hl 0 rfl) ?_
    refine zget (ci := k) (fs := [.ref aC, .int kd, .int ht, .int tk, .int σ.1, .int lt]) E hK hP (j + 3) (zg hj) (zC_K hk) 0 (by decide) kw_112 (Or.inr kw_113) rfl d_Flare_flash_1 ?_
    refine lv_bipush (v := 7) hx hb d_Flare_flash_4 (by decide) ?_
    refine lv_iconst (v := 2) hx hb d_Flare_flash_6 (by decide) ?_
    refine zcV (As := [.int 7, .int 2]) (rest := []) (ci := 9) E cy_Coast_begins kw_293 kw_294 kw_292 (c_Coast_begins l dC dI c1 c2 c3 A aC aD aE d (rest.set j (wL aC aL k kd ht tk σ.1 lt)) σ.2 7 2 72 (by decide)) hK hP hD hS 0 rfl zC_Coast.1 rfl rfl hl.1 rfl (Nat.le_of_ble_eq_true rfl) ⟨Nat.le_of_ble_eq_true rfl, Nat.le_of_ble_eq_true rfl⟩ d_Flare_flash_7 ⟨Nat.le_refl _, Nat.le_refl _⟩ (fun H locs hP hD hS => ?_)
    have hP : va_P (dC, dI) classes (wl c1 c2 aC aD aE aL k d kd ht tk lt rest j (σ.1, tb 72 σ.2)) H := hP
    have hD : va_D A (wl c1 c2 aC aD aE aL k d kd ht tk lt rest j (σ.1, tb 72 σ.2)) := hD
    refine lv_iload_n hx hb d_Flare_flash_10 rfl (lv_at hl 1 rfl) ?_
    refine lv_iconst (v := 1) hx hb d_Flare_flash_11 (by decide) ?_
    refine lv_iand hx hb d_Flare_flash_12 ?_
    refine lv_if_ne (tgt := 24) hx hb d_Flare_flash_13 (by decide) (fun h9 => absurd (h1) h9) (fun _ => ?_)
    refine lv_aload_n hx hb d_Flare_flash_16 rfl (lv_at hl 0 rfl) ?_
    refine lv_iload_n hx hb d_Flare_flash_17 rfl (lv_at hl 1 rfl) ?_
    refine zcP (x := ⟨"CoastLamps$Gas", "flash", "(I)I"⟩) (As := [.int x]) (rest := []) (ci := k) E cy_Lamp_flash kw_375 kw_381 ⟨rfl, rfl, by decide⟩ kw_224 (fun a1 g1 h1 h2 => z_sub1 (hts _ kw_211) h1 h2) kw_380 (c_Lamp_flash l dC dI c1 c2 c3 A aC aD aE aL k hk d kd ht tk lt rest j hj (σ.1, tb 72 σ.2) x) hK hP hD hS (j + 3) (zg hj) (zC_K hk).1 rfl hl.1 rfl (Nat.le_of_ble_eq_true rfl) ⟨Nat.le_of_ble_eq_true rfl, Nat.le_of_ble_eq_true rfl⟩ d_Flare_flash_18 ⟨Nat.le_refl _, Nat.le_refl _⟩ (fun H locs hP hD hS => ?_)
    have hP : va_P (dC, dI) classes (wl c1 c2 aC aD aE aL k d kd ht tk lt rest j ((fLamp (σ.1, tb 72 σ.2)).2)) H := hP
    have hD : va_D A (wl c1 c2 aC aD aE aL k d kd ht tk lt rest j ((fLamp (σ.1, tb 72 σ.2)).2)) := hD
    refine lv_goto (tgt := 25) hx hb d_Flare_flash_21 (by decide) ?_
    exact zri E hK hP hD hS d_Flare_flash_25
  · have e9 : fFlare x σ = (0, (σ.1, tb 72 σ.2)) := by unfold fFlare; rw [if_neg h1]
    rw [e9]
    refine zM_of "CoastLamps$Flare" rfl (by decide) (Nat.le_of_ble_eq_true rfl) ?_
    intro p e s m below meth c ls E hP hK hD hS hl
    obtain ⟨hx, hb, hml, ho, hts, hr, hlk⟩ := id E
    have hl : lv_has ls 2 [(0, .ref aL), (1, .int x)] := hl
    refine lv_aload_n hx hb d_Flare_flash_0 rfl (lv_at hl 0 rfl) ?_
    refine zget (ci := k) (fs := [.ref aC, .int kd, .int ht, .int tk, .int σ.1, .int lt]) E hK hP (j + 3) (zg hj) (zC_K hk) 0 (by decide) kw_112 (Or.inr kw_113) rfl d_Flare_flash_1 ?_
    refine lv_bipush (v := 7) hx hb d_Flare_flash_4 (by decide) ?_
    refine lv_iconst (v := 2) hx hb d_Flare_flash_6 (by decide) ?_
    refine zcV (As := [.int 7, .int 2]) (rest := []) (ci := 9) E cy_Coast_begins kw_293 kw_294 kw_292 (c_Coast_begins l dC dI c1 c2 c3 A aC aD aE d (rest.set j (wL aC aL k kd ht tk σ.1 lt)) σ.2 7 2 72 (by decide)) hK hP hD hS 0 rfl zC_Coast.1 rfl rfl hl.1 rfl (Nat.le_of_ble_eq_true rfl) ⟨Nat.le_of_ble_eq_true rfl, Nat.le_of_ble_eq_true rfl⟩ d_Flare_flash_7 ⟨Nat.le_refl _, Nat.le_refl _⟩ (fun H locs hP hD hS => ?_)
    have hP : va_P (dC, dI) classes (wl c1 c2 aC aD aE aL k d kd ht tk lt rest j (σ.1, tb 72 σ.2)) H := hP
    have hD : va_D A (wl c1 c2 aC aD aE aL k d kd ht tk lt rest j (σ.1, tb 72 σ.2)) := hD
    refine lv_iload_n hx hb d_Flare_flash_10 rfl (lv_at hl 1 rfl) ?_
    refine lv_iconst (v := 1) hx hb d_Flare_flash_11 (by decide) ?_
    refine lv_iand hx hb d_Flare_flash_12 ?_
    refine lv_if_ne (tgt := 24) hx hb d_Flare_flash_13 (by decide) (fun _ => ?_) (fun h9 => absurd h9 (h1))
    refine lv_iconst (v := 0) hx hb d_Flare_flash_24 (by decide) ?_
    exact zri E hK hP hD hS d_Flare_flash_25
set_option maxHeartbeats 4000000 in
set_option maxRecDepth 100000 in
theorem c_Outer_flash (l : Launch) (dC : Nat → ClassId) (dI : Nat → Nat → Nat) (c1 c2 c3 : ClassId) (A : Nat → Prop) (aC aD aE aL k : Nat) (hk : k < 9) (d : Nat → Int32) (kd ht tk lt : Int32) (rest : va_W) (j : Nat) (hj : j < rest.length) (σ : zS) (x : Int32) : zM l y_Outer_flash b_Outer_flash 3 (some (FieldType.int)) 3 64 [.ref aL, .int x] (dC, dI) (t3 c1 c2 c3) A (wl c1 c2 aC aD aE aL k d kd ht tk lt rest j σ) (wl c1 c2 aC aD aE aL k d kd ht tk lt rest j (fOuter x σ).2) (some (.int (fOuter x σ).1)) := by
  refine zM_of "CoastLamps$Outer" rfl (by decide) (Nat.le_of_ble_eq_true rfl) ?_
  intro p e s m below meth c ls E hP hK hD hS hl
  obtain ⟨hx, hb, hml, ho, hts, hr, hlk⟩ := id E
  have hl : lv_has ls 3 [(0, .ref aL), (1, .int x)] := hl
  refine lv_aload_n hx hb d_Outer_flash_0 rfl (lv_at hl 0 rfl) ?_
  refine zget (ci := k) (fs := [.ref aC, .int kd, .int ht, .int tk, .int σ.1, .int lt]) E hK hP (j + 3) (zg hj) (zC_K hk) 0 (by decide) kw_100 (Or.inr kw_101) rfl d_Outer_flash_1 ?_
  refine lv_bipush (v := 9) hx hb d_Outer_flash_4 (by decide) ?_
  refine lv_iconst (v := 2) hx hb d_Outer_flash_6 (by decide) ?_
  refine zcV (As := [.int 9, .int 2]) (rest := []) (ci := 9) E cy_Coast_begins kw_293 kw_294 kw_316 (c_Coast_begins l dC dI c1 c2 c3 A aC aD aE d (rest.set j (wL aC aL k kd ht tk σ.1 lt)) σ.2 9 2 92 (by decide)) hK hP hD hS 0 rfl zC_Coast.1 rfl rfl hl.1 rfl (Nat.le_of_ble_eq_true rfl) ⟨Nat.le_of_ble_eq_true rfl, Nat.le_of_ble_eq_true rfl⟩ d_Outer_flash_7 ⟨Nat.le_refl _, Nat.le_refl _⟩ (fun H locs hP hD hS => ?_)
  have hP : va_P (dC, dI) classes (wl c1 c2 aC aD aE aL k d kd ht tk lt rest j (σ.1, tb 92 σ.2)) H := hP
  have hD : va_D A (wl c1 c2 aC aD aE aL k d kd ht tk lt rest j (σ.1, tb 92 σ.2)) := hD
  refine lv_aload_n hx hb d_Outer_flash_10 rfl (lv_at hl 0 rfl) ?_
  refine lv_iload_n hx hb d_Outer_flash_11 rfl (lv_at hl 1 rfl) ?_
  refine zcP (x := ⟨"CoastLamps$Buoy", "flash", "(I)I"⟩) (As := [.int x]) (rest := []) (ci := k) E cy_Flare_flash kw_378 kw_395 ⟨rfl, rfl, by decide⟩ kw_250 (fun a1 g1 h1 h2 => z_sub1 (hts _ kw_237) h1 h2) kw_394 (c_Flare_flash l dC dI c1 c2 c3 A aC aD aE aL k hk d kd ht tk lt rest j hj (σ.1, tb 92 σ.2) x) hK hP hD hS (j + 3) (zg hj) (zC_K hk).1 rfl hl.1 rfl (Nat.le_of_ble_eq_true rfl) ⟨Nat.le_of_ble_eq_true rfl, Nat.le_of_ble_eq_true rfl⟩ d_Outer_flash_12 ⟨Nat.le_refl _, Nat.le_refl _⟩ (fun H locs hP hD hS => ?_)
  have hP : va_P (dC, dI) classes (wl c1 c2 aC aD aE aL k d kd ht tk lt rest j ((fFlare x (σ.1, tb 92 σ.2)).2)) H := hP
  have hD : va_D A (wl c1 c2 aC aD aE aL k d kd ht tk lt rest j ((fFlare x (σ.1, tb 92 σ.2)).2)) := hD
  refine lv_istore_n (lv' := [(2, .int ((fFlare x (σ.1, tb 92 σ.2)).1)), (0, .ref aL), (1, .int x)]) hx hb d_Outer_flash_15 rfl hl (by decide) rfl (fun ls hl => ?_)
  refine lv_iload_n hx hb d_Outer_flash_16 rfl (lv_at hl 0 rfl) ?_
  refine lv_aload_n hx hb d_Outer_flash_17 rfl (lv_at hl 1 rfl) ?_
  refine lv_iload_n hx hb d_Outer_flash_18 rfl (lv_at hl 2 rfl) ?_
  refine lv_iconst (v := 1) hx hb d_Outer_flash_19 (by decide) ?_
  refine lv_iadd hx hb d_Outer_flash_20 ?_
  refine zcP (x := ⟨"CoastLamps$Buoy", "flash", "(I)I"⟩) (As := [.int (x + 1)]) (rest := [.int ((fFlare x (σ.1, tb 92 σ.2)).1)]) (ci := k) E cy_Flare_flash kw_378 kw_395 ⟨rfl, rfl, by decide⟩ kw_250 (fun a1 g1 h1 h2 => z_sub1 (hts _ kw_237) h1 h2) kw_394 (c_Flare_flash l dC dI c1 c2 c3 A aC aD aE aL k hk d kd ht tk lt rest j hj ((fFlare x (σ.1, tb 92 σ.2)).2) (x + 1)) hK hP hD hS (j + 3) (zg hj) (zC_K hk).1 rfl hl.1 rfl (Nat.le_of_ble_eq_true rfl) ⟨Nat.le_of_ble_eq_true rfl, Nat.le_of_ble_eq_true rfl⟩ d_Outer_flash_21 ⟨Nat.le_refl _, Nat.le_refl _⟩ (fun H locs hP hD hS => ?_)
  have hP : va_P (dC, dI) classes (wl c1 c2 aC aD aE aL k d kd ht tk lt rest j ((fFlare (x + 1) ((fFlare x (σ.1, tb 92 σ.2)).2)).2)) H := hP
  have hD : va_D A (wl c1 c2 aC aD aE aL k d kd ht tk lt rest j ((fFlare (x + 1) ((fFlare x (σ.1, tb 92 σ.2)).2)).2)) := hD
  refine lv_iadd hx hb d_Outer_flash_24 ?_
  exact zri E hK hP hD hS d_Outer_flash_25
set_option maxHeartbeats 4000000 in
set_option maxRecDepth 100000 in
theorem c_Lamp_tend (l : Launch) (dC : Nat → ClassId) (dI : Nat → Nat → Nat) (c1 c2 c3 : ClassId) (A : Nat → Prop) (aC aD aE aL k : Nat) (hk : k < 9) (d : Nat → Int32) (kd ht tk lt : Int32) (rest : va_W) (j : Nat) (hj : j < rest.length) (σ : zS) (x : Int32) : zM l y_Lamp_tend b_Lamp_tend 2 (some (FieldType.int)) 1 22 [.ref aL, .int x] (dC, dI) (t3 c1 c2 c3) A (wl c1 c2 aC aD aE aL k d kd ht tk lt rest j σ) (wl c1 c2 aC aD aE aL k d kd ht tk lt rest j (tLamp x σ).2) (some (.int (tLamp x σ).1)) := by
  refine zM_of "CoastLamps$Lamp" rfl (by decide) (Nat.le_of_ble_eq_true rfl) ?_
  intro p e s m below meth c ls E hP hK hD hS hl
  obtain ⟨hx, hb, hml, ho, hts, hr, hlk⟩ := id E
  have hl : lv_has ls 2 [(0, .ref aL), (1, .int x)] := hl
  refine lv_aload_n hx hb d_Lamp_tend_0 rfl (lv_at hl 0 rfl) ?_
  refine zget (ci := k) (fs := [.ref aC, .int kd, .int ht, .int tk, .int σ.1, .int lt]) E hK hP (j + 3) (zg hj) (zC_K hk) 0 (by decide) kw_97 (Or.inl rfl) rfl d_Lamp_tend_1 ?_
  refine lv_iconst (v := 0) hx hb d_Lamp_tend_4 (by decide) ?_
  refine lv_iconst (v := 3) hx hb d_Lamp_tend_5 (by decide) ?_
  refine zcV (As := [.int 0, .int 3]) (rest := []) (ci := 9) E cy_Coast_begins kw_293 kw_294 kw_334 (c_Coast_begins l dC dI c1 c2 c3 A aC aD aE d (rest.set j (wL aC aL k kd ht tk σ.1 lt)) σ.2 0 3 3 (by decide)) hK hP hD hS 0 rfl zC_Coast.1 rfl rfl hl.1 rfl (Nat.le_of_ble_eq_true rfl) ⟨Nat.le_of_ble_eq_true rfl, Nat.le_of_ble_eq_true rfl⟩ d_Lamp_tend_6 ⟨Nat.le_refl _, Nat.le_refl _⟩ (fun H locs hP hD hS => ?_)
  have hP : va_P (dC, dI) classes (wl c1 c2 aC aD aE aL k d kd ht tk lt rest j (σ.1, tb 3 σ.2)) H := hP
  have hD : va_D A (wl c1 c2 aC aD aE aL k d kd ht tk lt rest j (σ.1, tb 3 σ.2)) := hD
  refine lv_aload_n hx hb d_Lamp_tend_9 rfl (lv_at hl 0 rfl) ?_
  refine lv_aload_n hx hb d_Lamp_tend_10 rfl (lv_at hl 0 rfl) ?_
  refine zget (ci := k) (fs := [.ref aC, .int kd, .int ht, .int tk, .int σ.1, .int lt]) E hK hP (j + 3) (zg hj) (zC_K hk) 4 (by decide) kw_128 (Or.inl rfl) rfl d_Lamp_tend_11 ?_
  refine lv_iload_n hx hb d_Lamp_tend_14 rfl (lv_at hl 1 rfl) ?_
  refine lv_isub hx hb d_Lamp_tend_15 ?_
  refine lv_iconst (v := 0) hx hb d_Lamp_tend_16 (by decide) ?_
  refine zmax E hl.1 kw_435 kw_322 kw_14 kw_323 (Nat.le_of_ble_eq_true rfl) (Nat.le_of_ble_eq_true rfl) ⟨Nat.le_refl _, Nat.le_refl _⟩ d_Lamp_tend_17 ?_
  refine zput (ci := k) (fs := [.ref aC, .int kd, .int ht, .int tk, .int σ.1, .int lt]) (ty := .int) (v := .int (if σ.1 - x < 0 then 0 else σ.1 - x)) (ws2 := wl c1 c2 aC aD aE aL k d kd ht tk lt rest j (if σ.1 - x < 0 then 0 else σ.1 - x, tb 3 σ.2)) E hK hP hD hS (j + 3) (zg hj) (zC_K hk) t_Lamp o_Lamp n_Lamp 4 (by decide) kw_128 (Or.inl rfl) rfl rfl rfl rfl (Nat.le_of_ble_eq_true rfl) d_Lamp_tend_20 (zs) (fun H locs hP hD hS => ?_)
  refine lv_aload_n hx hb d_Lamp_tend_23 rfl (lv_at hl 0 rfl) ?_
  refine zget (ci := k) (fs := [.ref aC, .int kd, .int ht, .int tk, .int (if σ.1 - x < 0 then 0 else σ.1 - x), .int lt]) E hK hP (j + 3) (zg hj) (zC_K hk) 4 (by decide) kw_128 (Or.inl rfl) rfl d_Lamp_tend_24 ?_
  exact zri E hK hP hD hS d_Lamp_tend_27
set_option maxHeartbeats 4000000 in
set_option maxRecDepth 100000 in
theorem c_Round_tend (l : Launch) (dC : Nat → ClassId) (dI : Nat → Nat → Nat) (c1 c2 c3 : ClassId) (A : Nat → Prop) (aC aD aE aL k : Nat) (hk : k < 9) (d : Nat → Int32) (kd ht tk lt : Int32) (rest : va_W) (j : Nat) (hj : j < rest.length) (σ : zS) (x : Int32) : zM l y_Round_tend b_Round_tend 2 (some (FieldType.int)) 2 43 [.ref aL, .int x] (dC, dI) (t3 c1 c2 c3) A (wl c1 c2 aC aD aE aL k d kd ht tk lt rest j σ) (wl c1 c2 aC aD aE aL k d kd ht tk lt rest j (tRound x σ).2) (some (.int (tRound x σ).1)) := by
  refine zM_of "CoastLamps$Round" rfl (by decide) (Nat.le_of_ble_eq_true rfl) ?_
  intro p e s m below meth c ls E hP hK hD hS hl
  obtain ⟨hx, hb, hml, ho, hts, hr, hlk⟩ := id E
  have hl : lv_has ls 2 [(0, .ref aL), (1, .int x)] := hl
  refine lv_aload_n hx hb d_Round_tend_0 rfl (lv_at hl 0 rfl) ?_
  refine zget (ci := k) (fs := [.ref aC, .int kd, .int ht, .int tk, .int σ.1, .int lt]) E hK hP (j + 3) (zg hj) (zC_K hk) 0 (by decide) kw_110 (Or.inr kw_111) rfl d_Round_tend_1 ?_
  refine lv_iconst (v := 2) hx hb d_Round_tend_4 (by decide) ?_
  refine lv_iconst (v := 3) hx hb d_Round_tend_5 (by decide) ?_
  refine zcV (As := [.int 2, .int 3]) (rest := []) (ci := 9) E cy_Coast_begins kw_293 kw_294 kw_360 (c_Coast_begins l dC dI c1 c2 c3 A aC aD aE d (rest.set j (wL aC aL k kd ht tk σ.1 lt)) σ.2 2 3 23 (by decide)) hK hP hD hS 0 rfl zC_Coast.1 rfl rfl hl.1 rfl (Nat.le_of_ble_eq_true rfl) ⟨Nat.le_of_ble_eq_true rfl, Nat.le_of_ble_eq_true rfl⟩ d_Round_tend_6 ⟨Nat.le_refl _, Nat.le_refl _⟩ (fun H locs hP hD hS => ?_)
  have hP : va_P (dC, dI) classes (wl c1 c2 aC aD aE aL k d kd ht tk lt rest j (σ.1, tb 23 σ.2)) H := hP
  have hD : va_D A (wl c1 c2 aC aD aE aL k d kd ht tk lt rest j (σ.1, tb 23 σ.2)) := hD
  refine lv_aload_n hx hb d_Round_tend_9 rfl (lv_at hl 0 rfl) ?_
  refine lv_iload_n hx hb d_Round_tend_10 rfl (lv_at hl 1 rfl) ?_
  refine zcP (x := ⟨"CoastLamps$Oil", "tend", "(I)I"⟩) (As := [.int x]) (rest := []) (ci := k) E cy_Lamp_tend kw_407 kw_426 ⟨rfl, rfl, by decide⟩ kw_159 (fun a1 g1 h1 h2 => z_sub1 (hts _ kw_146) h1 h2) kw_425 (c_Lamp_tend l dC dI c1 c2 c3 A aC aD aE aL k hk d kd ht tk lt rest j hj (σ.1, tb 23 σ.2) x) hK hP hD hS (j + 3) (zg hj) (zC_K hk).1 rfl hl.1 rfl (Nat.le_of_ble_eq_true rfl) ⟨Nat.le_of_ble_eq_true rfl, Nat.le_of_ble_eq_true rfl⟩ d_Round_tend_11 ⟨Nat.le_refl _, Nat.le_refl _⟩ (fun H locs hP hD hS => ?_)
  have hP : va_P (dC, dI) classes (wl c1 c2 aC aD aE aL k d kd ht tk lt rest j ((tLamp x (σ.1, tb 23 σ.2)).2)) H := hP
  have hD : va_D A (wl c1 c2 aC aD aE aL k d kd ht tk lt rest j ((tLamp x (σ.1, tb 23 σ.2)).2)) := hD
  refine lv_pop hx hb d_Round_tend_14 rfl ?_
  refine lv_aload_n hx hb d_Round_tend_15 rfl (lv_at hl 0 rfl) ?_
  refine lv_iload_n hx hb d_Round_tend_16 rfl (lv_at hl 1 rfl) ?_
  refine lv_iconst (v := 2) hx hb d_Round_tend_17 (by decide) ?_
  refine lv_idiv hx hb d_Round_tend_18 (by decide) ?_
  refine zcP (x := ⟨"CoastLamps$Oil", "tend", "(I)I"⟩) (As := [.int (x / 2)]) (rest := []) (ci := k) E cy_Lamp_tend kw_407 kw_426 ⟨rfl, rfl, by decide⟩ kw_159 (fun a1 g1 h1 h2 => z_sub1 (hts _ kw_146) h1 h2) kw_425 (c_Lamp_tend l dC dI c1 c2 c3 A aC aD aE aL k hk d kd ht tk lt rest j hj ((tLamp x (σ.1, tb 23 σ.2)).2) (x / 2)) hK hP hD hS (j + 3) (zg hj) (zC_K hk).1 rfl hl.1 rfl (Nat.le_of_ble_eq_true rfl) ⟨Nat.le_of_ble_eq_true rfl, Nat.le_of_ble_eq_true rfl⟩ d_Round_tend_19 ⟨Nat.le_refl _, Nat.le_refl _⟩ (fun H locs hP hD hS => ?_)
  have hP : va_P (dC, dI) classes (wl c1 c2 aC aD aE aL k d kd ht tk lt rest j ((tLamp (x / 2) ((tLamp x (σ.1, tb 23 σ.2)).2)).2)) H := hP
  have hD : va_D A (wl c1 c2 aC aD aE aL k d kd ht tk lt rest j ((tLamp (x / 2) ((tLamp x (σ.1, tb 23 σ.2)).2)).2)) := hD
  exact zri E hK hP hD hS d_Round_tend_22
set_option maxHeartbeats 4000000 in
set_option maxRecDepth 100000 in
theorem c_Drum_tend (l : Launch) (dC : Nat → ClassId) (dI : Nat → Nat → Nat) (c1 c2 c3 : ClassId) (A : Nat → Prop) (aC aD aE aL k : Nat) (hk : k < 9) (d : Nat → Int32) (kd ht tk lt : Int32) (rest : va_W) (j : Nat) (hj : j < rest.length) (σ : zS) (x : Int32) : zM l y_Drum_tend b_Drum_tend 2 (some (FieldType.int)) 3 64 [.ref aL, .int x] (dC, dI) (t3 c1 c2 c3) A (wl c1 c2 aC aD aE aL k d kd ht tk lt rest j σ) (wl c1 c2 aC aD aE aL k d kd ht tk lt rest j (tDrum d x σ).2) (some (.int (tDrum d x σ).1)) := by
  refine zM_of "CoastLamps$Drum" rfl (by decide) (Nat.le_of_ble_eq_true rfl) ?_
  intro p e s m below meth c ls E hP hK hD hS hl
  obtain ⟨hx, hb, hml, ho, hts, hr, hlk⟩ := id E
  have hl : lv_has ls 2 [(0, .ref aL), (1, .int x)] := hl
  refine lv_aload_n hx hb d_Drum_tend_0 rfl (lv_at hl 0 rfl) ?_
  refine zget (ci := k) (fs := [.ref aC, .int kd, .int ht, .int tk, .int σ.1, .int lt]) E hK hP (j + 3) (zg hj) (zC_K hk) 0 (by decide) kw_108 (Or.inr kw_109) rfl d_Drum_tend_1 ?_
  refine lv_iconst (v := 4) hx hb d_Drum_tend_4 (by decide) ?_
  refine lv_iconst (v := 3) hx hb d_Drum_tend_5 (by decide) ?_
  refine zcV (As := [.int 4, .int 3]) (rest := []) (ci := 9) E cy_Coast_begins kw_293 kw_294 kw_353 (c_Coast_begins l dC dI c1 c2 c3 A aC aD aE d (rest.set j (wL aC aL k kd ht tk σ.1 lt)) σ.2 4 3 43 (by decide)) hK hP hD hS 0 rfl zC_Coast.1 rfl rfl hl.1 rfl (Nat.le_of_ble_eq_true rfl) ⟨Nat.le_of_ble_eq_true rfl, Nat.le_of_ble_eq_true rfl⟩ d_Drum_tend_6 ⟨Nat.le_refl _, Nat.le_refl _⟩ (fun H locs hP hD hS => ?_)
  have hP : va_P (dC, dI) classes (wl c1 c2 aC aD aE aL k d kd ht tk lt rest j (σ.1, tb 43 σ.2)) H := hP
  have hD : va_D A (wl c1 c2 aC aD aE aL k d kd ht tk lt rest j (σ.1, tb 43 σ.2)) := hD
  refine lv_aload_n hx hb d_Drum_tend_9 rfl (lv_at hl 0 rfl) ?_
  refine lv_iload_n hx hb d_Drum_tend_10 rfl (lv_at hl 1 rfl) ?_
  refine lv_aload_n hx hb d_Drum_tend_11 rfl (lv_at hl 0 rfl) ?_
  refine zget (ci := k) (fs := [.ref aC, .int kd, .int ht, .int tk, .int σ.1, .int lt]) E hK hP (j + 3) (zg hj) (zC_K hk) 0 (by decide) kw_108 (Or.inr kw_109) rfl d_Drum_tend_12 ?_
  refine lv_iconst (v := 3) hx hb d_Drum_tend_15 (by decide) ?_
  refine zcV (As := [.int 3]) (rest := [.int x, .ref aL]) (ci := 9) E cy_Coast_dialed kw_73 kw_74 kw_419 (c_Coast_dialed l dC dI c1 c2 c3 A aC aD aE d (rest.set j (wL aC aL k kd ht tk σ.1 lt)) (tb 43 σ.2) 3 3 (by decide) (by decide)) hK hP hD hS 0 rfl zC_Coast.1 rfl rfl hl.1 rfl (Nat.le_of_ble_eq_true rfl) ⟨Nat.le_of_ble_eq_true rfl, Nat.le_of_ble_eq_true rfl⟩ d_Drum_tend_16 ⟨Nat.le_refl _, Nat.le_refl _⟩ (fun H locs hP hD hS => ?_)
  have hP : va_P (dC, dI) classes (wl c1 c2 aC aD aE aL k d kd ht tk lt rest j (σ.1, tb 43 σ.2)) H := hP
  have hD : va_D A (wl c1 c2 aC aD aE aL k d kd ht tk lt rest j (σ.1, tb 43 σ.2)) := hD
  refine lv_iadd hx hb d_Drum_tend_19 ?_
  refine zcP (x := ⟨"CoastLamps$Twin", "tend", "(I)I"⟩) (As := [.int (x + (d 3))]) (rest := []) (ci := k) E cy_Round_tend kw_423 kw_421 ⟨rfl, rfl, by decide⟩ kw_185 (fun a1 g1 h1 h2 => z_sub1 (hts _ kw_172) h1 h2) kw_420 (c_Round_tend l dC dI c1 c2 c3 A aC aD aE aL k hk d kd ht tk lt rest j hj (σ.1, tb 43 σ.2) (x + (d 3))) hK hP hD hS (j + 3) (zg hj) (zC_K hk).1 rfl hl.1 rfl (Nat.le_of_ble_eq_true rfl) ⟨Nat.le_of_ble_eq_true rfl, Nat.le_of_ble_eq_true rfl⟩ d_Drum_tend_20 ⟨Nat.le_refl _, Nat.le_refl _⟩ (fun H locs hP hD hS => ?_)
  have hP : va_P (dC, dI) classes (wl c1 c2 aC aD aE aL k d kd ht tk lt rest j ((tRound (x + (d 3)) (σ.1, tb 43 σ.2)).2)) H := hP
  have hD : va_D A (wl c1 c2 aC aD aE aL k d kd ht tk lt rest j ((tRound (x + (d 3)) (σ.1, tb 43 σ.2)).2)) := hD
  exact zri E hK hP hD hS d_Drum_tend_23
set_option maxHeartbeats 4000000 in
set_option maxRecDepth 100000 in
theorem c_Buoy_tend (l : Launch) (dC : Nat → ClassId) (dI : Nat → Nat → Nat) (c1 c2 c3 : ClassId) (A : Nat → Prop) (aC aD aE aL k : Nat) (hk : k < 9) (d : Nat → Int32) (kd ht tk lt : Int32) (rest : va_W) (j : Nat) (hj : j < rest.length) (σ : zS) (x : Int32) : zM l y_Buoy_tend b_Buoy_tend 3 (some (FieldType.int)) 2 43 [.ref aL, .int x] (dC, dI) (t3 c1 c2 c3) A (wl c1 c2 aC aD aE aL k d kd ht tk lt rest j σ) (wl c1 c2 aC aD aE aL k d kd ht tk lt rest j (tBuoy d x σ).2) (some (.int (tBuoy d x σ).1)) := by
  by_cases h1 : d 4 = 0
  · have e9 : tBuoy d x σ = tLamp x (σ.1, tb 83 σ.2) := by unfold tBuoy; rw [if_pos h1]
    rw [e9]
    refine zM_of "CoastLamps$Buoy" rfl (by decide) (Nat.le_of_ble_eq_true rfl) ?_
    intro p e s m below meth c ls E hP hK hD hS hl
    obtain ⟨hx, hb, hml, ho, hts, hr, hlk⟩ := id E
    have hl : lv_has ls 3 [(0, .ref aL), (1, .int x)] := hl
    refine lv_aload_n hx hb d_Buoy_tend_0 rfl (lv_at hl 0 rfl) ?_
    refine zget (ci := k) (fs := [.ref aC, .int kd, .int ht, .int tk, .int σ.1, .int lt]) E hK hP (j + 3) (zg hj) (zC_K hk) 0 (by decide) kw_104 (Or.inr kw_105) rfl d_Buoy_tend_1 ?_
    refine lv_bipush (v := 8) hx hb d_Buoy_tend_4 (by decide) ?_
    refine lv_iconst (v := 3) hx hb d_Buoy_tend_6 (by decide) ?_
    refine zcV (As := [.int 8, .int 3]) (rest := []) (ci := 9) E cy_Coast_begins kw_293 kw_294 kw_342 (c_Coast_begins l dC dI c1 c2 c3 A aC aD aE d (rest.set j (wL aC aL k kd ht tk σ.1 lt)) σ.2 8 3 83 (by decide)) hK hP hD hS 0 rfl zC_Coast.1 rfl rfl hl.1 rfl (Nat.le_of_ble_eq_true rfl) ⟨Nat.le_of_ble_eq_true rfl, Nat.le_of_ble_eq_true rfl⟩ d_Buoy_tend_7 ⟨Nat.le_refl _, Nat.le_refl _⟩ (fun H locs hP hD hS => ?_)
    have hP : va_P (dC, dI) classes (wl c1 c2 aC aD aE aL k d kd ht tk lt rest j (σ.1, tb 83 σ.2)) H := hP
    have hD : va_D A (wl c1 c2 aC aD aE aL k d kd ht tk lt rest j (σ.1, tb 83 σ.2)) := hD
    refine lv_aload_n hx hb d_Buoy_tend_10 rfl (lv_at hl 0 rfl) ?_
    refine zget (ci := k) (fs := [.ref aC, .int kd, .int ht, .int tk, .int σ.1, .int lt]) E hK hP (j + 3) (zg hj) (zC_K hk) 0 (by decide) kw_104 (Or.inr kw_105) rfl d_Buoy_tend_11 ?_
    refine lv_iconst (v := 4) hx hb d_Buoy_tend_14 (by decide) ?_
    refine zcV (As := [.int 4]) (rest := []) (ci := 9) E cy_Coast_dialed kw_73 kw_74 kw_412 (c_Coast_dialed l dC dI c1 c2 c3 A aC aD aE d (rest.set j (wL aC aL k kd ht tk σ.1 lt)) (tb 83 σ.2) 4 4 (by decide) (by decide)) hK hP hD hS 0 rfl zC_Coast.1 rfl rfl hl.1 rfl (Nat.le_of_ble_eq_true rfl) ⟨Nat.le_of_ble_eq_true rfl, Nat.le_of_ble_eq_true rfl⟩ d_Buoy_tend_15 ⟨Nat.le_refl _, Nat.le_refl _⟩ (fun H locs hP hD hS => ?_)
    have hP : va_P (dC, dI) classes (wl c1 c2 aC aD aE aL k d kd ht tk lt rest j (σ.1, tb 83 σ.2)) H := hP
    have hD : va_D A (wl c1 c2 aC aD aE aL k d kd ht tk lt rest j (σ.1, tb 83 σ.2)) := hD
    refine lv_istore_n (lv' := [(2, .int (d 4)), (0, .ref aL), (1, .int x)]) hx hb d_Buoy_tend_18 rfl hl (by decide) rfl (fun ls hl => ?_)
    refine lv_iload_n hx hb d_Buoy_tend_19 rfl (lv_at hl 0 rfl) ?_
    refine lv_if_ne (tgt := 31) hx hb d_Buoy_tend_20 (by decide) (fun h9 => absurd (h1) h9) (fun _ => ?_)
    refine lv_aload_n hx hb d_Buoy_tend_23 rfl (lv_at hl 1 rfl) ?_
    refine lv_iload_n hx hb d_Buoy_tend_24 rfl (lv_at hl 2 rfl) ?_
    refine zcP (x := ⟨"CoastLamps$Flare", "tend", "(I)I"⟩) (As := [.int x]) (rest := []) (ci := k) E cy_Lamp_tend kw_407 kw_414 ⟨rfl, rfl, by decide⟩ kw_237 (fun a1 g1 h1 h2 => z_sub2 (hts _ kw_224) (hts _ kw_211) h1 h2) kw_413 (c_Lamp_tend l dC dI c1 c2 c3 A aC aD aE aL k hk d kd ht tk lt rest j hj (σ.1, tb 83 σ.2) x) hK hP hD hS (j + 3) (zg hj) (zC_K hk).1 rfl hl.1 rfl (Nat.le_of_ble_eq_true rfl) ⟨Nat.le_of_ble_eq_true rfl, Nat.le_of_ble_eq_true rfl⟩ d_Buoy_tend_25 ⟨Nat.le_refl _, Nat.le_refl _⟩ (fun H locs hP hD hS => ?_)
    have hP : va_P (dC, dI) classes (wl c1 c2 aC aD aE aL k d kd ht tk lt rest j ((tLamp x (σ.1, tb 83 σ.2)).2)) H := hP
    have hD : va_D A (wl c1 c2 aC aD aE aL k d kd ht tk lt rest j ((tLamp x (σ.1, tb 83 σ.2)).2)) := hD
    refine lv_goto (tgt := 32) hx hb d_Buoy_tend_28 (by decide) ?_
    exact zri E hK hP hD hS d_Buoy_tend_32
  · have e9 : tBuoy d x σ = (d 4, (σ.1, tb 83 σ.2)) := by unfold tBuoy; rw [if_neg h1]
    rw [e9]
    refine zM_of "CoastLamps$Buoy" rfl (by decide) (Nat.le_of_ble_eq_true rfl) ?_
    intro p e s m below meth c ls E hP hK hD hS hl
    obtain ⟨hx, hb, hml, ho, hts, hr, hlk⟩ := id E
    have hl : lv_has ls 3 [(0, .ref aL), (1, .int x)] := hl
    refine lv_aload_n hx hb d_Buoy_tend_0 rfl (lv_at hl 0 rfl) ?_
    refine zget (ci := k) (fs := [.ref aC, .int kd, .int ht, .int tk, .int σ.1, .int lt]) E hK hP (j + 3) (zg hj) (zC_K hk) 0 (by decide) kw_104 (Or.inr kw_105) rfl d_Buoy_tend_1 ?_
    refine lv_bipush (v := 8) hx hb d_Buoy_tend_4 (by decide) ?_
    refine lv_iconst (v := 3) hx hb d_Buoy_tend_6 (by decide) ?_
    refine zcV (As := [.int 8, .int 3]) (rest := []) (ci := 9) E cy_Coast_begins kw_293 kw_294 kw_342 (c_Coast_begins l dC dI c1 c2 c3 A aC aD aE d (rest.set j (wL aC aL k kd ht tk σ.1 lt)) σ.2 8 3 83 (by decide)) hK hP hD hS 0 rfl zC_Coast.1 rfl rfl hl.1 rfl (Nat.le_of_ble_eq_true rfl) ⟨Nat.le_of_ble_eq_true rfl, Nat.le_of_ble_eq_true rfl⟩ d_Buoy_tend_7 ⟨Nat.le_refl _, Nat.le_refl _⟩ (fun H locs hP hD hS => ?_)
    have hP : va_P (dC, dI) classes (wl c1 c2 aC aD aE aL k d kd ht tk lt rest j (σ.1, tb 83 σ.2)) H := hP
    have hD : va_D A (wl c1 c2 aC aD aE aL k d kd ht tk lt rest j (σ.1, tb 83 σ.2)) := hD
    refine lv_aload_n hx hb d_Buoy_tend_10 rfl (lv_at hl 0 rfl) ?_
    refine zget (ci := k) (fs := [.ref aC, .int kd, .int ht, .int tk, .int σ.1, .int lt]) E hK hP (j + 3) (zg hj) (zC_K hk) 0 (by decide) kw_104 (Or.inr kw_105) rfl d_Buoy_tend_11 ?_
    refine lv_iconst (v := 4) hx hb d_Buoy_tend_14 (by decide) ?_
    refine zcV (As := [.int 4]) (rest := []) (ci := 9) E cy_Coast_dialed kw_73 kw_74 kw_412 (c_Coast_dialed l dC dI c1 c2 c3 A aC aD aE d (rest.set j (wL aC aL k kd ht tk σ.1 lt)) (tb 83 σ.2) 4 4 (by decide) (by decide)) hK hP hD hS 0 rfl zC_Coast.1 rfl rfl hl.1 rfl (Nat.le_of_ble_eq_true rfl) ⟨Nat.le_of_ble_eq_true rfl, Nat.le_of_ble_eq_true rfl⟩ d_Buoy_tend_15 ⟨Nat.le_refl _, Nat.le_refl _⟩ (fun H locs hP hD hS => ?_)
    have hP : va_P (dC, dI) classes (wl c1 c2 aC aD aE aL k d kd ht tk lt rest j (σ.1, tb 83 σ.2)) H := hP
    have hD : va_D A (wl c1 c2 aC aD aE aL k d kd ht tk lt rest j (σ.1, tb 83 σ.2)) := hD
    refine lv_istore_n (lv' := [(2, .int (d 4)), (0, .ref aL), (1, .int x)]) hx hb d_Buoy_tend_18 rfl hl (by decide) rfl (fun ls hl => ?_)
    refine lv_iload_n hx hb d_Buoy_tend_19 rfl (lv_at hl 0 rfl) ?_
    refine lv_if_ne (tgt := 31) hx hb d_Buoy_tend_20 (by decide) (fun _ => ?_) (fun h9 => absurd h9 (h1))
    refine lv_iload_n hx hb d_Buoy_tend_31 rfl (lv_at hl 0 rfl) ?_
    exact zri E hK hP hD hS d_Buoy_tend_32
set_option maxHeartbeats 4000000 in
set_option maxRecDepth 100000 in
theorem c_Lamp_rank (l : Launch) (dC : Nat → ClassId) (dI : Nat → Nat → Nat) (c1 c2 c3 : ClassId) (A : Nat → Prop) (aC aD aE aL k : Nat) (hk : k < 9) (d : Nat → Int32) (kd ht tk lt : Int32) (rest : va_W) (j : Nat) (hj : j < rest.length) (σ : zS) : zM l y_Lamp_rank b_Lamp_rank 1 (some (FieldType.int)) 1 22 [.ref aL] (dC, dI) (t3 c1 c2 c3) A (wl c1 c2 aC aD aE aL k d kd ht tk lt rest j σ) (wl c1 c2 aC aD aE aL k d kd ht tk lt rest j (kLamp ht σ).2) (some (.int (kLamp ht σ).1)) := by
  refine zM_of "CoastLamps$Lamp" rfl (by decide) (Nat.le_of_ble_eq_true rfl) ?_
  intro p e s m below meth c ls E hP hK hD hS hl
  obtain ⟨hx, hb, hml, ho, hts, hr, hlk⟩ := id E
  have hl : lv_has ls 1 [(0, .ref aL)] := hl
  refine lv_aload_n hx hb d_Lamp_rank_0 rfl (lv_at hl 0 rfl) ?_
  refine zget (ci := k) (fs := [.ref aC, .int kd, .int ht, .int tk, .int σ.1, .int lt]) E hK hP (j + 3) (zg hj) (zC_K hk) 0 (by decide) kw_97 (Or.inl rfl) rfl d_Lamp_rank_1 ?_
  refine lv_iconst (v := 0) hx hb d_Lamp_rank_4 (by decide) ?_
  refine lv_iconst (v := 4) hx hb d_Lamp_rank_5 (by decide) ?_
  refine zcV (As := [.int 0, .int 4]) (rest := []) (ci := 9) E cy_Coast_begins kw_293 kw_294 kw_334 (c_Coast_begins l dC dI c1 c2 c3 A aC aD aE d (rest.set j (wL aC aL k kd ht tk σ.1 lt)) σ.2 0 4 4 (by decide)) hK hP hD hS 0 rfl zC_Coast.1 rfl rfl hl.1 rfl (Nat.le_of_ble_eq_true rfl) ⟨Nat.le_of_ble_eq_true rfl, Nat.le_of_ble_eq_true rfl⟩ d_Lamp_rank_6 ⟨Nat.le_refl _, Nat.le_refl _⟩ (fun H locs hP hD hS => ?_)
  have hP : va_P (dC, dI) classes (wl c1 c2 aC aD aE aL k d kd ht tk lt rest j (σ.1, tb 4 σ.2)) H := hP
  have hD : va_D A (wl c1 c2 aC aD aE aL k d kd ht tk lt rest j (σ.1, tb 4 σ.2)) := hD
  refine lv_aload_n hx hb d_Lamp_rank_9 rfl (lv_at hl 0 rfl) ?_
  refine zget (ci := k) (fs := [.ref aC, .int kd, .int ht, .int tk, .int σ.1, .int lt]) E hK hP (j + 3) (zg hj) (zC_K hk) 2 (by decide) kw_118 (Or.inl rfl) rfl d_Lamp_rank_10 ?_
  refine lv_bipush (v := 9) hx hb d_Lamp_rank_13 (by decide) ?_
  refine lv_irem hx hb d_Lamp_rank_15 (by decide) ?_
  exact zri E hK hP hD hS d_Lamp_rank_16
set_option maxHeartbeats 4000000 in
set_option maxRecDepth 100000 in
theorem c_Oil_rank (l : Launch) (dC : Nat → ClassId) (dI : Nat → Nat → Nat) (c1 c2 c3 : ClassId) (A : Nat → Prop) (aC aD aE aL k : Nat) (hk : k < 9) (d : Nat → Int32) (kd ht tk lt : Int32) (rest : va_W) (j : Nat) (hj : j < rest.length) (σ : zS) : zM l y_Oil_rank b_Oil_rank 1 (some (FieldType.int)) 2 42 [.ref aL] (dC, dI) (t3 c1 c2 c3) A (wl c1 c2 aC aD aE aL k d kd ht tk lt rest j σ) (wl c1 c2 aC aD aE aL k d kd ht tk lt rest j (kOil ht σ).2) (some (.int (kOil ht σ).1)) := by
  refine zM_of "CoastLamps$Oil" rfl (by decide) (Nat.le_of_ble_eq_true rfl) ?_
  intro p e s m below meth c ls E hP hK hD hS hl
  obtain ⟨hx, hb, hml, ho, hts, hr, hlk⟩ := id E
  have hl : lv_has ls 1 [(0, .ref aL)] := hl
  refine lv_aload_n hx hb d_Oil_rank_0 rfl (lv_at hl 0 rfl) ?_
  refine zget (ci := k) (fs := [.ref aC, .int kd, .int ht, .int tk, .int σ.1, .int lt]) E hK hP (j + 3) (zg hj) (zC_K hk) 0 (by decide) kw_98 (Or.inr kw_99) rfl d_Oil_rank_1 ?_
  refine lv_iconst (v := 1) hx hb d_Oil_rank_4 (by decide) ?_
  refine lv_iconst (v := 4) hx hb d_Oil_rank_5 (by decide) ?_
  refine zcV (As := [.int 1, .int 4]) (rest := []) (ci := 9) E cy_Coast_begins kw_293 kw_294 kw_308 (c_Coast_begins l dC dI c1 c2 c3 A aC aD aE d (rest.set j (wL aC aL k kd ht tk σ.1 lt)) σ.2 1 4 14 (by decide)) hK hP hD hS 0 rfl zC_Coast.1 rfl rfl hl.1 rfl (Nat.le_of_ble_eq_true rfl) ⟨Nat.le_of_ble_eq_true rfl, Nat.le_of_ble_eq_true rfl⟩ d_Oil_rank_6 ⟨Nat.le_refl _, Nat.le_refl _⟩ (fun H locs hP hD hS => ?_)
  have hP : va_P (dC, dI) classes (wl c1 c2 aC aD aE aL k d kd ht tk lt rest j (σ.1, tb 14 σ.2)) H := hP
  have hD : va_D A (wl c1 c2 aC aD aE aL k d kd ht tk lt rest j (σ.1, tb 14 σ.2)) := hD
  refine lv_aload_n hx hb d_Oil_rank_9 rfl (lv_at hl 0 rfl) ?_
  refine zcP (x := ⟨"CoastLamps$Lamp", "rank", "()I"⟩) (As := []) (rest := []) (ci := k) E cy_Lamp_rank kw_437 kw_438 ⟨rfl, rfl, by decide⟩ kw_146 (fun a1 g1 h1 h2 => by cases h1.symm.trans h2; simp [Vm.isSubclass, Vm.isSubclassAux]) kw_453 (c_Lamp_rank l dC dI c1 c2 c3 A aC aD aE aL k hk d kd ht tk lt rest j hj (σ.1, tb 14 σ.2)) hK hP hD hS (j + 3) (zg hj) (zC_K hk).1 rfl hl.1 rfl (Nat.le_of_ble_eq_true rfl) ⟨Nat.le_of_ble_eq_true rfl, Nat.le_of_ble_eq_true rfl⟩ d_Oil_rank_10 ⟨Nat.le_refl _, Nat.le_refl _⟩ (fun H locs hP hD hS => ?_)
  have hP : va_P (dC, dI) classes (wl c1 c2 aC aD aE aL k d kd ht tk lt rest j ((kLamp ht (σ.1, tb 14 σ.2)).2)) H := hP
  have hD : va_D A (wl c1 c2 aC aD aE aL k d kd ht tk lt rest j ((kLamp ht (σ.1, tb 14 σ.2)).2)) := hD
  refine lv_iconst (v := 1) hx hb d_Oil_rank_13 (by decide) ?_
  refine lv_iadd hx hb d_Oil_rank_14 ?_
  exact zri E hK hP hD hS d_Oil_rank_15
set_option maxHeartbeats 4000000 in
set_option maxRecDepth 100000 in
theorem c_Drum_rank (l : Launch) (dC : Nat → ClassId) (dI : Nat → Nat → Nat) (c1 c2 c3 : ClassId) (A : Nat → Prop) (aC aD aE aL k : Nat) (hk : k < 9) (d : Nat → Int32) (kd ht tk lt : Int32) (rest : va_W) (j : Nat) (hj : j < rest.length) (σ : zS) : zM l y_Drum_rank b_Drum_rank 1 (some (FieldType.int)) 3 62 [.ref aL] (dC, dI) (t3 c1 c2 c3) A (wl c1 c2 aC aD aE aL k d kd ht tk lt rest j σ) (wl c1 c2 aC aD aE aL k d kd ht tk lt rest j (kDrum ht σ).2) (some (.int (kDrum ht σ).1)) := by
  refine zM_of "CoastLamps$Drum" rfl (by decide) (Nat.le_of_ble_eq_true rfl) ?_
  intro p e s m below meth c ls E hP hK hD hS hl
  obtain ⟨hx, hb, hml, ho, hts, hr, hlk⟩ := id E
  have hl : lv_has ls 1 [(0, .ref aL)] := hl
  refine lv_aload_n hx hb d_Drum_rank_0 rfl (lv_at hl 0 rfl) ?_
  refine zget (ci := k) (fs := [.ref aC, .int kd, .int ht, .int tk, .int σ.1, .int lt]) E hK hP (j + 3) (zg hj) (zC_K hk) 0 (by decide) kw_108 (Or.inr kw_109) rfl d_Drum_rank_1 ?_
  refine lv_iconst (v := 4) hx hb d_Drum_rank_4 (by decide) ?_
  refine lv_iconst (v := 4) hx hb d_Drum_rank_5 (by decide) ?_
  refine zcV (As := [.int 4, .int 4]) (rest := []) (ci := 9) E cy_Coast_begins kw_293 kw_294 kw_353 (c_Coast_begins l dC dI c1 c2 c3 A aC aD aE d (rest.set j (wL aC aL k kd ht tk σ.1 lt)) σ.2 4 4 44 (by decide)) hK hP hD hS 0 rfl zC_Coast.1 rfl rfl hl.1 rfl (Nat.le_of_ble_eq_true rfl) ⟨Nat.le_of_ble_eq_true rfl, Nat.le_of_ble_eq_true rfl⟩ d_Drum_rank_6 ⟨Nat.le_refl _, Nat.le_refl _⟩ (fun H locs hP hD hS => ?_)
  have hP : va_P (dC, dI) classes (wl c1 c2 aC aD aE aL k d kd ht tk lt rest j (σ.1, tb 44 σ.2)) H := hP
  have hD : va_D A (wl c1 c2 aC aD aE aL k d kd ht tk lt rest j (σ.1, tb 44 σ.2)) := hD
  refine lv_iconst (v := 2) hx hb d_Drum_rank_9 (by decide) ?_
  refine lv_aload_n hx hb d_Drum_rank_10 rfl (lv_at hl 0 rfl) ?_
  refine zcP (x := ⟨"CoastLamps$Twin", "rank", "()I"⟩) (As := []) (rest := [.int 2]) (ci := k) E cy_Oil_rank kw_451 kw_449 ⟨rfl, rfl, by decide⟩ kw_185 (fun a1 g1 h1 h2 => z_sub2 (hts _ kw_172) (hts _ kw_159) h1 h2) kw_448 (c_Oil_rank l dC dI c1 c2 c3 A aC aD aE aL k hk d kd ht tk lt rest j hj (σ.1, tb 44 σ.2)) hK hP hD hS (j + 3) (zg hj) (zC_K hk).1 rfl hl.1 rfl (Nat.le_of_ble_eq_true rfl) ⟨Nat.le_of_ble_eq_true rfl, Nat.le_of_ble_eq_true rfl⟩ d_Drum_rank_11 ⟨Nat.le_refl _, Nat.le_refl _⟩ (fun H locs hP hD hS => ?_)
  have hP : va_P (dC, dI) classes (wl c1 c2 aC aD aE aL k d kd ht tk lt rest j ((kOil ht (σ.1, tb 44 σ.2)).2)) H := hP
  have hD : va_D A (wl c1 c2 aC aD aE aL k d kd ht tk lt rest j ((kOil ht (σ.1, tb 44 σ.2)).2)) := hD
  refine lv_imul hx hb d_Drum_rank_14 ?_
  exact zri E hK hP hD hS d_Drum_rank_15
set_option maxHeartbeats 4000000 in
set_option maxRecDepth 100000 in
theorem c_Flare_rank (l : Launch) (dC : Nat → ClassId) (dI : Nat → Nat → Nat) (c1 c2 c3 : ClassId) (A : Nat → Prop) (aC aD aE aL k : Nat) (hk : k < 9) (d : Nat → Int32) (kd ht tk lt : Int32) (rest : va_W) (j : Nat) (hj : j < rest.length) (σ : zS) : zM l y_Flare_rank b_Flare_rank 1 (some (FieldType.int)) 2 42 [.ref aL] (dC, dI) (t3 c1 c2 c3) A (wl c1 c2 aC aD aE aL k d kd ht tk lt rest j σ) (wl c1 c2 aC aD aE aL k d kd ht tk lt rest j (kFlare ht σ).2) (some (.int (kFlare ht σ).1)) := by
  refine zM_of "CoastLamps$Flare" rfl (by decide) (Nat.le_of_ble_eq_true rfl) ?_
  intro p e s m below meth c ls E hP hK hD hS hl
  obtain ⟨hx, hb, hml, ho, hts, hr, hlk⟩ := id E
  have hl : lv_has ls 1 [(0, .ref aL)] := hl
  refine lv_aload_n hx hb d_Flare_rank_0 rfl (lv_at hl 0 rfl) ?_
  refine zget (ci := k) (fs := [.ref aC, .int kd, .int ht, .int tk, .int σ.1, .int lt]) E hK hP (j + 3) (zg hj) (zC_K hk) 0 (by decide) kw_112 (Or.inr kw_113) rfl d_Flare_rank_1 ?_
  refine lv_bipush (v := 7) hx hb d_Flare_rank_4 (by decide) ?_
  refine lv_iconst (v := 4) hx hb d_Flare_rank_6 (by decide) ?_
  refine zcV (As := [.int 7, .int 4]) (rest := []) (ci := 9) E cy_Coast_begins kw_293 kw_294 kw_292 (c_Coast_begins l dC dI c1 c2 c3 A aC aD aE d (rest.set j (wL aC aL k kd ht tk σ.1 lt)) σ.2 7 4 74 (by decide)) hK hP hD hS 0 rfl zC_Coast.1 rfl rfl hl.1 rfl (Nat.le_of_ble_eq_true rfl) ⟨Nat.le_of_ble_eq_true rfl, Nat.le_of_ble_eq_true rfl⟩ d_Flare_rank_7 ⟨Nat.le_refl _, Nat.le_refl _⟩ (fun H locs hP hD hS => ?_)
  have hP : va_P (dC, dI) classes (wl c1 c2 aC aD aE aL k d kd ht tk lt rest j (σ.1, tb 74 σ.2)) H := hP
  have hD : va_D A (wl c1 c2 aC aD aE aL k d kd ht tk lt rest j (σ.1, tb 74 σ.2)) := hD
  refine lv_aload_n hx hb d_Flare_rank_10 rfl (lv_at hl 0 rfl) ?_
  refine zcP (x := ⟨"CoastLamps$Gas", "rank", "()I"⟩) (As := []) (rest := []) (ci := k) E cy_Lamp_rank kw_437 kw_443 ⟨rfl, rfl, by decide⟩ kw_224 (fun a1 g1 h1 h2 => z_sub1 (hts _ kw_211) h1 h2) kw_442 (c_Lamp_rank l dC dI c1 c2 c3 A aC aD aE aL k hk d kd ht tk lt rest j hj (σ.1, tb 74 σ.2)) hK hP hD hS (j + 3) (zg hj) (zC_K hk).1 rfl hl.1 rfl (Nat.le_of_ble_eq_true rfl) ⟨Nat.le_of_ble_eq_true rfl, Nat.le_of_ble_eq_true rfl⟩ d_Flare_rank_11 ⟨Nat.le_refl _, Nat.le_refl _⟩ (fun H locs hP hD hS => ?_)
  have hP : va_P (dC, dI) classes (wl c1 c2 aC aD aE aL k d kd ht tk lt rest j ((kLamp ht (σ.1, tb 74 σ.2)).2)) H := hP
  have hD : va_D A (wl c1 c2 aC aD aE aL k d kd ht tk lt rest j ((kLamp ht (σ.1, tb 74 σ.2)).2)) := hD
  refine lv_aload_n hx hb d_Flare_rank_14 rfl (lv_at hl 0 rfl) ?_
  refine zget (ci := k) (fs := [.ref aC, .int kd, .int ht, .int tk, .int (((kLamp ht (σ.1, tb 74 σ.2)).2).1), .int lt]) E hK hP (j + 3) (zg hj) (zC_K hk) 4 (by decide) kw_129 (Or.inr kw_130) rfl d_Flare_rank_15 ?_
  refine lv_iconst (v := 5) hx hb d_Flare_rank_18 (by decide) ?_
  refine lv_irem hx hb d_Flare_rank_19 (by decide) ?_
  refine lv_iadd hx hb d_Flare_rank_20 ?_
  exact zri E hK hP hD hS d_Flare_rank_21
set_option maxHeartbeats 4000000 in
set_option maxRecDepth 100000 in
theorem c_Outer_rank (l : Launch) (dC : Nat → ClassId) (dI : Nat → Nat → Nat) (c1 c2 c3 : ClassId) (A : Nat → Prop) (aC aD aE aL k : Nat) (hk : k < 9) (d : Nat → Int32) (kd ht tk lt : Int32) (rest : va_W) (j : Nat) (hj : j < rest.length) (σ : zS) : zM l y_Outer_rank b_Outer_rank 1 (some (FieldType.int)) 3 62 [.ref aL] (dC, dI) (t3 c1 c2 c3) A (wl c1 c2 aC aD aE aL k d kd ht tk lt rest j σ) (wl c1 c2 aC aD aE aL k d kd ht tk lt rest j (kOuter ht tk σ).2) (some (.int (kOuter ht tk σ).1)) := by
  refine zM_of "CoastLamps$Outer" rfl (by decide) (Nat.le_of_ble_eq_true rfl) ?_
  intro p e s m below meth c ls E hP hK hD hS hl
  obtain ⟨hx, hb, hml, ho, hts, hr, hlk⟩ := id E
  have hl : lv_has ls 1 [(0, .ref aL)] := hl
  refine lv_aload_n hx hb d_Outer_rank_0 rfl (lv_at hl 0 rfl) ?_
  refine zget (ci := k) (fs := [.ref aC, .int kd, .int ht, .int tk, .int σ.1, .int lt]) E hK hP (j + 3) (zg hj) (zC_K hk) 0 (by decide) kw_100 (Or.inr kw_101) rfl d_Outer_rank_1 ?_
  refine lv_bipush (v := 9) hx hb d_Outer_rank_4 (by decide) ?_
  refine lv_iconst (v := 4) hx hb d_Outer_rank_6 (by decide) ?_
  refine zcV (As := [.int 9, .int 4]) (rest := []) (ci := 9) E cy_Coast_begins kw_293 kw_294 kw_316 (c_Coast_begins l dC dI c1 c2 c3 A aC aD aE d (rest.set j (wL aC aL k kd ht tk σ.1 lt)) σ.2 9 4 94 (by decide)) hK hP hD hS 0 rfl zC_Coast.1 rfl rfl hl.1 rfl (Nat.le_of_ble_eq_true rfl) ⟨Nat.le_of_ble_eq_true rfl, Nat.le_of_ble_eq_true rfl⟩ d_Outer_rank_7 ⟨Nat.le_refl _, Nat.le_refl _⟩ (fun H locs hP hD hS => ?_)
  have hP : va_P (dC, dI) classes (wl c1 c2 aC aD aE aL k d kd ht tk lt rest j (σ.1, tb 94 σ.2)) H := hP
  have hD : va_D A (wl c1 c2 aC aD aE aL k d kd ht tk lt rest j (σ.1, tb 94 σ.2)) := hD
  refine lv_aload_n hx hb d_Outer_rank_10 rfl (lv_at hl 0 rfl) ?_
  refine zcP (x := ⟨"CoastLamps$Buoy", "rank", "()I"⟩) (As := []) (rest := []) (ci := k) E cy_Flare_rank kw_440 kw_461 ⟨rfl, rfl, by decide⟩ kw_250 (fun a1 g1 h1 h2 => z_sub1 (hts _ kw_237) h1 h2) kw_460 (c_Flare_rank l dC dI c1 c2 c3 A aC aD aE aL k hk d kd ht tk lt rest j hj (σ.1, tb 94 σ.2)) hK hP hD hS (j + 3) (zg hj) (zC_K hk).1 rfl hl.1 rfl (Nat.le_of_ble_eq_true rfl) ⟨Nat.le_of_ble_eq_true rfl, Nat.le_of_ble_eq_true rfl⟩ d_Outer_rank_11 ⟨Nat.le_refl _, Nat.le_refl _⟩ (fun H locs hP hD hS => ?_)
  have hP : va_P (dC, dI) classes (wl c1 c2 aC aD aE aL k d kd ht tk lt rest j ((kFlare ht (σ.1, tb 94 σ.2)).2)) H := hP
  have hD : va_D A (wl c1 c2 aC aD aE aL k d kd ht tk lt rest j ((kFlare ht (σ.1, tb 94 σ.2)).2)) := hD
  refine lv_aload_n hx hb d_Outer_rank_14 rfl (lv_at hl 0 rfl) ?_
  refine zget (ci := k) (fs := [.ref aC, .int kd, .int ht, .int tk, .int (((kFlare ht (σ.1, tb 94 σ.2)).2).1), .int lt]) E hK hP (j + 3) (zg hj) (zC_K hk) 3 (by decide) kw_121 (Or.inr kw_122) rfl d_Outer_rank_15 ?_
  refine lv_iconst (v := 3) hx hb d_Outer_rank_18 (by decide) ?_
  refine lv_irem hx hb d_Outer_rank_19 (by decide) ?_
  refine lv_iadd hx hb d_Outer_rank_20 ?_
  exact zri E hK hP hD hS d_Outer_rank_21
set_option maxHeartbeats 4000000 in
set_option maxRecDepth 100000 in
theorem c_Oil_tone (l : Launch) (dC : Nat → ClassId) (dI : Nat → Nat → Nat) (c1 c2 c3 : ClassId) (A : Nat → Prop) (aC aD aE aL k : Nat) (hk : k < 9) (d : Nat → Int32) (kd ht tk lt : Int32) (rest : va_W) (j : Nat) (hj : j < rest.length) (σ : zS) : zM l y_Oil_tone b_Oil_tone 1 (some (FieldType.int)) 1 22 [.ref aL] (dC, dI) (t3 c1 c2 c3) A (wl c1 c2 aC aD aE aL k d kd ht tk lt rest j σ) (wl c1 c2 aC aD aE aL k d kd ht tk lt rest j (oOil σ).2) (some (.int (oOil σ).1)) := by
  refine zM_of "CoastLamps$Oil" rfl (by decide) (Nat.le_of_ble_eq_true rfl) ?_
  intro p e s m below meth c ls E hP hK hD hS hl
  obtain ⟨hx, hb, hml, ho, hts, hr, hlk⟩ := id E
  have hl : lv_has ls 1 [(0, .ref aL)] := hl
  refine lv_aload_n hx hb d_Oil_tone_0 rfl (lv_at hl 0 rfl) ?_
  refine zget (ci := k) (fs := [.ref aC, .int kd, .int ht, .int tk, .int σ.1, .int lt]) E hK hP (j + 3) (zg hj) (zC_K hk) 0 (by decide) kw_98 (Or.inr kw_99) rfl d_Oil_tone_1 ?_
  refine lv_iconst (v := 1) hx hb d_Oil_tone_4 (by decide) ?_
  refine lv_bipush (v := 6) hx hb d_Oil_tone_5 (by decide) ?_
  refine zcV (As := [.int 1, .int 6]) (rest := []) (ci := 9) E cy_Coast_begins kw_293 kw_294 kw_308 (c_Coast_begins l dC dI c1 c2 c3 A aC aD aE d (rest.set j (wL aC aL k kd ht tk σ.1 lt)) σ.2 1 6 16 (by decide)) hK hP hD hS 0 rfl zC_Coast.1 rfl rfl hl.1 rfl (Nat.le_of_ble_eq_true rfl) ⟨Nat.le_of_ble_eq_true rfl, Nat.le_of_ble_eq_true rfl⟩ d_Oil_tone_7 ⟨Nat.le_refl _, Nat.le_refl _⟩ (fun H locs hP hD hS => ?_)
  have hP : va_P (dC, dI) classes (wl c1 c2 aC aD aE aL k d kd ht tk lt rest j (σ.1, tb 16 σ.2)) H := hP
  have hD : va_D A (wl c1 c2 aC aD aE aL k d kd ht tk lt rest j (σ.1, tb 16 σ.2)) := hD
  refine lv_bipush (v := 7) hx hb d_Oil_tone_10 (by decide) ?_
  exact zri E hK hP hD hS d_Oil_tone_12
set_option maxHeartbeats 4000000 in
set_option maxRecDepth 100000 in
theorem c_Drum_tone (l : Launch) (dC : Nat → ClassId) (dI : Nat → Nat → Nat) (c1 c2 c3 : ClassId) (A : Nat → Prop) (aC aD aE aL k : Nat) (hk : k < 9) (d : Nat → Int32) (kd ht tk lt : Int32) (rest : va_W) (j : Nat) (hj : j < rest.length) (σ : zS) : zM l y_Drum_tone b_Drum_tone 1 (some (FieldType.int)) 2 42 [.ref aL] (dC, dI) (t3 c1 c2 c3) A (wl c1 c2 aC aD aE aL k d kd ht tk lt rest j σ) (wl c1 c2 aC aD aE aL k d kd ht tk lt rest j (oDrum d σ).2) (some (.int (oDrum d σ).1)) := by
  refine zM_of "CoastLamps$Drum" rfl (by decide) (Nat.le_of_ble_eq_true rfl) ?_
  intro p e s m below meth c ls E hP hK hD hS hl
  obtain ⟨hx, hb, hml, ho, hts, hr, hlk⟩ := id E
  have hl : lv_has ls 1 [(0, .ref aL)] := hl
  refine lv_aload_n hx hb d_Drum_tone_0 rfl (lv_at hl 0 rfl) ?_
  refine zget (ci := k) (fs := [.ref aC, .int kd, .int ht, .int tk, .int σ.1, .int lt]) E hK hP (j + 3) (zg hj) (zC_K hk) 0 (by decide) kw_108 (Or.inr kw_109) rfl d_Drum_tone_1 ?_
  refine lv_iconst (v := 4) hx hb d_Drum_tone_4 (by decide) ?_
  refine lv_bipush (v := 6) hx hb d_Drum_tone_5 (by decide) ?_
  refine zcV (As := [.int 4, .int 6]) (rest := []) (ci := 9) E cy_Coast_begins kw_293 kw_294 kw_353 (c_Coast_begins l dC dI c1 c2 c3 A aC aD aE d (rest.set j (wL aC aL k kd ht tk σ.1 lt)) σ.2 4 6 46 (by decide)) hK hP hD hS 0 rfl zC_Coast.1 rfl rfl hl.1 rfl (Nat.le_of_ble_eq_true rfl) ⟨Nat.le_of_ble_eq_true rfl, Nat.le_of_ble_eq_true rfl⟩ d_Drum_tone_7 ⟨Nat.le_refl _, Nat.le_refl _⟩ (fun H locs hP hD hS => ?_)
  have hP : va_P (dC, dI) classes (wl c1 c2 aC aD aE aL k d kd ht tk lt rest j (σ.1, tb 46 σ.2)) H := hP
  have hD : va_D A (wl c1 c2 aC aD aE aL k d kd ht tk lt rest j (σ.1, tb 46 σ.2)) := hD
  refine lv_aload_n hx hb d_Drum_tone_10 rfl (lv_at hl 0 rfl) ?_
  refine zcP (x := ⟨"CoastLamps$Twin", "tone", "()I"⟩) (As := []) (rest := []) (ci := k) E cy_Oil_tone kw_489 kw_487 ⟨rfl, rfl, by decide⟩ kw_185 (fun a1 g1 h1 h2 => z_sub2 (hts _ kw_172) (hts _ kw_159) h1 h2) kw_486 (c_Oil_tone l dC dI c1 c2 c3 A aC aD aE aL k hk d kd ht tk lt rest j hj (σ.1, tb 46 σ.2)) hK hP hD hS (j + 3) (zg hj) (zC_K hk).1 rfl hl.1 rfl (Nat.le_of_ble_eq_true rfl) ⟨Nat.le_of_ble_eq_true rfl, Nat.le_of_ble_eq_true rfl⟩ d_Drum_tone_11 ⟨Nat.le_refl _, Nat.le_refl _⟩ (fun H locs hP hD hS => ?_)
  have hP : va_P (dC, dI) classes (wl c1 c2 aC aD aE aL k d kd ht tk lt rest j ((oOil (σ.1, tb 46 σ.2)).2)) H := hP
  have hD : va_D A (wl c1 c2 aC aD aE aL k d kd ht tk lt rest j ((oOil (σ.1, tb 46 σ.2)).2)) := hD
  refine lv_aload_n hx hb d_Drum_tone_14 rfl (lv_at hl 0 rfl) ?_
  refine zget (ci := k) (fs := [.ref aC, .int kd, .int ht, .int tk, .int (((oOil (σ.1, tb 46 σ.2)).2).1), .int lt]) E hK hP (j + 3) (zg hj) (zC_K hk) 0 (by decide) kw_108 (Or.inr kw_109) rfl d_Drum_tone_15 ?_
  refine lv_iconst (v := 5) hx hb d_Drum_tone_18 (by decide) ?_
  refine zcV (As := [.int 5]) (rest := [.int ((oOil (σ.1, tb 46 σ.2)).1)]) (ci := 9) E cy_Coast_dialed kw_73 kw_74 kw_419 (c_Coast_dialed l dC dI c1 c2 c3 A aC aD aE d (rest.set j (wL aC aL k kd ht tk (((oOil (σ.1, tb 46 σ.2)).2).1) lt)) (((oOil (σ.1, tb 46 σ.2)).2).2) 5 5 (by decide) (by decide)) hK hP hD hS 0 rfl zC_Coast.1 rfl rfl hl.1 rfl (Nat.le_of_ble_eq_true rfl) ⟨Nat.le_of_ble_eq_true rfl, Nat.le_of_ble_eq_true rfl⟩ d_Drum_tone_19 ⟨Nat.le_refl _, Nat.le_refl _⟩ (fun H locs hP hD hS => ?_)
  have hP : va_P (dC, dI) classes (wl c1 c2 aC aD aE aL k d kd ht tk lt rest j ((oOil (σ.1, tb 46 σ.2)).2)) H := hP
  have hD : va_D A (wl c1 c2 aC aD aE aL k d kd ht tk lt rest j ((oOil (σ.1, tb 46 σ.2)).2)) := hD
  refine lv_iadd hx hb d_Drum_tone_22 ?_
  exact zri E hK hP hD hS d_Drum_tone_23
set_option maxHeartbeats 4000000 in
set_option maxRecDepth 100000 in
theorem c_Flare_tone (l : Launch) (dC : Nat → ClassId) (dI : Nat → Nat → Nat) (c1 c2 c3 : ClassId) (A : Nat → Prop) (aC aD aE aL k : Nat) (hk : k < 9) (d : Nat → Int32) (kd ht tk lt : Int32) (rest : va_W) (j : Nat) (hj : j < rest.length) (σ : zS) : zM l y_Flare_tone b_Flare_tone 1 (some (FieldType.int)) 1 22 [.ref aL] (dC, dI) (t3 c1 c2 c3) A (wl c1 c2 aC aD aE aL k d kd ht tk lt rest j σ) (wl c1 c2 aC aD aE aL k d kd ht tk lt rest j (oFlare σ).2) (some (.int (oFlare σ).1)) := by
  refine zM_of "CoastLamps$Flare" rfl (by decide) (Nat.le_of_ble_eq_true rfl) ?_
  intro p e s m below meth c ls E hP hK hD hS hl
  obtain ⟨hx, hb, hml, ho, hts, hr, hlk⟩ := id E
  have hl : lv_has ls 1 [(0, .ref aL)] := hl
  refine lv_aload_n hx hb d_Flare_tone_0 rfl (lv_at hl 0 rfl) ?_
  refine zget (ci := k) (fs := [.ref aC, .int kd, .int ht, .int tk, .int σ.1, .int lt]) E hK hP (j + 3) (zg hj) (zC_K hk) 0 (by decide) kw_112 (Or.inr kw_113) rfl d_Flare_tone_1 ?_
  refine lv_bipush (v := 7) hx hb d_Flare_tone_4 (by decide) ?_
  refine lv_bipush (v := 6) hx hb d_Flare_tone_6 (by decide) ?_
  refine zcV (As := [.int 7, .int 6]) (rest := []) (ci := 9) E cy_Coast_begins kw_293 kw_294 kw_292 (c_Coast_begins l dC dI c1 c2 c3 A aC aD aE d (rest.set j (wL aC aL k kd ht tk σ.1 lt)) σ.2 7 6 76 (by decide)) hK hP hD hS 0 rfl zC_Coast.1 rfl rfl hl.1 rfl (Nat.le_of_ble_eq_true rfl) ⟨Nat.le_of_ble_eq_true rfl, Nat.le_of_ble_eq_true rfl⟩ d_Flare_tone_8 ⟨Nat.le_refl _, Nat.le_refl _⟩ (fun H locs hP hD hS => ?_)
  have hP : va_P (dC, dI) classes (wl c1 c2 aC aD aE aL k d kd ht tk lt rest j (σ.1, tb 76 σ.2)) H := hP
  have hD : va_D A (wl c1 c2 aC aD aE aL k d kd ht tk lt rest j (σ.1, tb 76 σ.2)) := hD
  refine lv_bipush (v := 9) hx hb d_Flare_tone_11 (by decide) ?_
  exact zri E hK hP hD hS d_Flare_tone_13
set_option maxHeartbeats 4000000 in
set_option maxRecDepth 100000 in
theorem c_Outer_tone (l : Launch) (dC : Nat → ClassId) (dI : Nat → Nat → Nat) (c1 c2 c3 : ClassId) (A : Nat → Prop) (aC aD aE aL : Nat) (d : Nat → Int32) (kd ht tk lt : Int32) (rest : va_W) (j : Nat) (hj : j < rest.length) (σ : zS) : zM l y_Outer_tone b_Outer_tone 2 (some (FieldType.int)) 4 82 [.ref aL] (dC, dI) (t3 c1 c2 c3) A (wl c1 c2 aC aD aE aL 8 d kd ht tk lt rest j σ) (wl c1 c2 aC aD aE aL 8 d kd ht tk lt rest j (oOuter ht tk σ).2) (some (.int (oOuter ht tk σ).1)) := by
  refine zM_of "CoastLamps$Outer" rfl (by decide) (Nat.le_of_ble_eq_true rfl) ?_
  intro p e s m below meth c ls E hP hK hD hS hl
  obtain ⟨hx, hb, hml, ho, hts, hr, hlk⟩ := id E
  have hl : lv_has ls 2 [(0, .ref aL)] := hl
  refine lv_aload_n hx hb d_Outer_tone_0 rfl (lv_at hl 0 rfl) ?_
  refine zget (ci := 8) (fs := [.ref aC, .int kd, .int ht, .int tk, .int σ.1, .int lt]) E hK hP (j + 3) (zg hj) (zC_K (by decide)) 0 (by decide) kw_100 (Or.inr kw_101) rfl d_Outer_tone_1 ?_
  refine lv_bipush (v := 9) hx hb d_Outer_tone_4 (by decide) ?_
  refine lv_bipush (v := 6) hx hb d_Outer_tone_6 (by decide) ?_
  refine zcV (As := [.int 9, .int 6]) (rest := []) (ci := 9) E cy_Coast_begins kw_293 kw_294 kw_316 (c_Coast_begins l dC dI c1 c2 c3 A aC aD aE d (rest.set j (wL aC aL 8 kd ht tk σ.1 lt)) σ.2 9 6 96 (by decide)) hK hP hD hS 0 rfl zC_Coast.1 rfl rfl hl.1 rfl (Nat.le_of_ble_eq_true rfl) ⟨Nat.le_of_ble_eq_true rfl, Nat.le_of_ble_eq_true rfl⟩ d_Outer_tone_8 ⟨Nat.le_refl _, Nat.le_refl _⟩ (fun H locs hP hD hS => ?_)
  have hP : va_P (dC, dI) classes (wl c1 c2 aC aD aE aL 8 d kd ht tk lt rest j (σ.1, tb 96 σ.2)) H := hP
  have hD : va_D A (wl c1 c2 aC aD aE aL 8 d kd ht tk lt rest j (σ.1, tb 96 σ.2)) := hD
  refine lv_aload_n hx hb d_Outer_tone_11 rfl (lv_at hl 0 rfl) ?_
  refine zcP (x := ⟨"CoastLamps$Buoy", "tone", "()I"⟩) (As := []) (rest := []) (ci := 8) E cy_Flare_tone kw_497 kw_507 ⟨rfl, rfl, by decide⟩ kw_250 (fun a1 g1 h1 h2 => z_sub1 (hts _ kw_237) h1 h2) kw_506 (c_Flare_tone l dC dI c1 c2 c3 A aC aD aE aL 8 (by decide) d kd ht tk lt rest j hj (σ.1, tb 96 σ.2)) hK hP hD hS (j + 3) (zg hj) (zC_K (by decide)).1 rfl hl.1 rfl (Nat.le_of_ble_eq_true rfl) ⟨Nat.le_of_ble_eq_true rfl, Nat.le_of_ble_eq_true rfl⟩ d_Outer_tone_12 ⟨Nat.le_refl _, Nat.le_refl _⟩ (fun H locs hP hD hS => ?_)
  have hP : va_P (dC, dI) classes (wl c1 c2 aC aD aE aL 8 d kd ht tk lt rest j ((oFlare (σ.1, tb 96 σ.2)).2)) H := hP
  have hD : va_D A (wl c1 c2 aC aD aE aL 8 d kd ht tk lt rest j ((oFlare (σ.1, tb 96 σ.2)).2)) := hD
  refine lv_istore_n (lv' := [(1, .int ((oFlare (σ.1, tb 96 σ.2)).1)), (0, .ref aL)]) hx hb d_Outer_tone_15 rfl hl (by decide) rfl (fun ls hl => ?_)
  refine lv_iload_n hx hb d_Outer_tone_16 rfl (lv_at hl 0 rfl) ?_
  refine lv_aload_n hx hb d_Outer_tone_17 rfl (lv_at hl 1 rfl) ?_
  refine zcV (As := []) (rest := [.int ((oFlare (σ.1, tb 96 σ.2)).1)]) (ci := 8) E cy_Outer_rank kw_458 kw_864 kw_509 (c_Outer_rank l dC dI c1 c2 c3 A aC aD aE aL 8 (by decide) d kd ht tk lt rest j hj ((oFlare (σ.1, tb 96 σ.2)).2)) hK hP hD hS (j + 3) (zg hj) (zC_K (by decide)).1 rfl rfl hl.1 rfl (Nat.le_of_ble_eq_true rfl) ⟨Nat.le_of_ble_eq_true rfl, Nat.le_of_ble_eq_true rfl⟩ d_Outer_tone_18 ⟨Nat.le_refl _, Nat.le_refl _⟩ (fun H locs hP hD hS => ?_)
  have hP : va_P (dC, dI) classes (wl c1 c2 aC aD aE aL 8 d kd ht tk lt rest j ((kOuter ht tk ((oFlare (σ.1, tb 96 σ.2)).2)).2)) H := hP
  have hD : va_D A (wl c1 c2 aC aD aE aL 8 d kd ht tk lt rest j ((kOuter ht tk ((oFlare (σ.1, tb 96 σ.2)).2)).2)) := hD
  refine lv_iadd hx hb d_Outer_tone_21 ?_
  exact zri E hK hP hD hS d_Outer_tone_22
end
section
set_option maxHeartbeats 1000000 in
set_option maxRecDepth 100000 in
theorem c_Lamp_horned (l : Launch) (dC : Nat → ClassId) (dI : Nat → Nat → Nat) (c1 c2 c3 : ClassId) (A : Nat → Prop) (aC aD aE aL k : Nat) (hk : k < 9) (d : Nat → Int32) (kd ht tk lt : Int32) (rest : va_W) (j : Nat) (hj : j < rest.length) (σ : zS) : zM l y_Lamp_horned b_Lamp_horned 1 (some (FieldType.boolean)) 0 0 [.ref aL] (dC, dI) (t3 c1 c2 c3) A (wl c1 c2 aC aD aE aL k d kd ht tk lt rest j σ) (wl c1 c2 aC aD aE aL k d kd ht tk lt rest j σ) (some (.int 0)) := by
  refine zM_of "CoastLamps$Lamp" rfl (by decide) (Nat.le_of_ble_eq_true rfl) ?_
  intro p e s m below meth c ls E hP hK hD hS hl
  obtain ⟨hx, hb, hml, ho, hts, hr, hlk⟩ := id E
  have hl : lv_has ls 1 [(0, .ref aL)] := hl
  refine lv_iconst (v := 0) hx hb d_Lamp_horned_0 (by decide) ?_
  exact zrz E hK hP hD hS rfl d_Lamp_horned_1
set_option maxHeartbeats 1000000 in
set_option maxRecDepth 100000 in
theorem c_Twin_horned (l : Launch) (dC : Nat → ClassId) (dI : Nat → Nat → Nat) (c1 c2 c3 : ClassId) (A : Nat → Prop) (aC aD aE aL k : Nat) (hk : k < 9) (d : Nat → Int32) (kd ht tk lt : Int32) (rest : va_W) (j : Nat) (hj : j < rest.length) (σ : zS) : zM l y_Twin_horned b_Twin_horned 1 (some (FieldType.boolean)) 0 0 [.ref aL] (dC, dI) (t3 c1 c2 c3) A (wl c1 c2 aC aD aE aL k d kd ht tk lt rest j σ) (wl c1 c2 aC aD aE aL k d kd ht tk lt rest j σ) (some (.int 1)) := by
  refine zM_of "CoastLamps$Twin" rfl (by decide) (Nat.le_of_ble_eq_true rfl) ?_
  intro p e s m below meth c ls E hP hK hD hS hl
  obtain ⟨hx, hb, hml, ho, hts, hr, hlk⟩ := id E
  have hl : lv_has ls 1 [(0, .ref aL)] := hl
  refine lv_iconst (v := 1) hx hb d_Twin_horned_0 (by decide) ?_
  exact zrz E hK hP hD hS rfl d_Twin_horned_1
set_option maxHeartbeats 1000000 in
set_option maxRecDepth 100000 in
theorem c_Flare_horned (l : Launch) (dC : Nat → ClassId) (dI : Nat → Nat → Nat) (c1 c2 c3 : ClassId) (A : Nat → Prop) (aC aD aE aL k : Nat) (hk : k < 9) (d : Nat → Int32) (kd ht tk lt : Int32) (rest : va_W) (j : Nat) (hj : j < rest.length) (σ : zS) : zM l y_Flare_horned b_Flare_horned 1 (some (FieldType.boolean)) 0 0 [.ref aL] (dC, dI) (t3 c1 c2 c3) A (wl c1 c2 aC aD aE aL k d kd ht tk lt rest j σ) (wl c1 c2 aC aD aE aL k d kd ht tk lt rest j σ) (some (.int 1)) := by
  refine zM_of "CoastLamps$Flare" rfl (by decide) (Nat.le_of_ble_eq_true rfl) ?_
  intro p e s m below meth c ls E hP hK hD hS hl
  obtain ⟨hx, hb, hml, ho, hts, hr, hlk⟩ := id E
  have hl : lv_has ls 1 [(0, .ref aL)] := hl
  refine lv_iconst (v := 1) hx hb d_Flare_horned_0 (by decide) ?_
  exact zrz E hK hP hD hS rfl d_Flare_horned_1
set_option maxHeartbeats 1000000 in
set_option maxRecDepth 100000 in
theorem c_Lamp_drain (l : Launch) (dC : Nat → ClassId) (dI : Nat → Nat → Nat) (c1 c2 c3 : ClassId) (A : Nat → Prop) (aC aD aE aL k : Nat) (hk : k < 9) (d : Nat → Int32) (kd ht tk lt : Int32) (rest : va_W) (j : Nat) (hj : j < rest.length) (σ : zS) (x : Int32) : zM l y_Lamp_drain b_Lamp_drain 2 none 0 0 [.ref aL, .int x] (dC, dI) (t3 c1 c2 c3) A (wl c1 c2 aC aD aE aL k d kd ht tk lt rest j σ) (wl c1 c2 aC aD aE aL k d kd ht (if tk ≤ x then 0 else tk - x) (if tk ≤ x then 0 else lt) rest j σ) none := by
  by_cases h1 : tk ≤ x
  · rw [if_pos h1, if_pos h1]
    refine zM_of "CoastLamps$Lamp" rfl (by decide) (Nat.le_of_ble_eq_true rfl) ?_
    intro p e s m below meth c ls E hP hK hD hS hl
    obtain ⟨hx, hb, hml, ho, hts, hr, hlk⟩ := id E
    have hl : lv_has ls 2 [(0, .ref aL), (1, .int x)] := hl
    refine lv_aload_n hx hb d_Lamp_drain_0 rfl (lv_at hl 0 rfl) ?_
    refine zget (ci := k) (fs := [.ref aC, .int kd, .int ht, .int tk, .int σ.1, .int lt]) E hK hP (j + 3) (zg hj) (zC_K hk) 3 (by decide) kw_120 (Or.inl rfl) rfl d_Lamp_drain_1 ?_
    refine lv_iload_n hx hb d_Lamp_drain_4 rfl (lv_at hl 1 rfl) ?_
    refine lv_icmp_le (tgt := 21) hx hb d_Lamp_drain_5 (by decide) (fun _ => ?_) (fun h9 => absurd (h1) h9)
    refine lv_aload_n hx hb d_Lamp_drain_21 rfl (lv_at hl 0 rfl) ?_
    refine lv_iconst (v := 0) hx hb d_Lamp_drain_22 (by decide) ?_
    refine zput (ci := k) (fs := [.ref aC, .int kd, .int ht, .int tk, .int σ.1, .int lt]) (ty := .int) (v := .int 0) (ws2 := wl c1 c2 aC aD aE aL k d kd ht 0 lt rest j σ) E hK hP hD hS (j + 3) (zg hj) (zC_K hk) t_Lamp o_Lamp n_Lamp 3 (by decide) kw_120 (Or.inl rfl) rfl rfl rfl rfl (Nat.le_of_ble_eq_true rfl) d_Lamp_drain_23 (zs) (fun H locs hP hD hS => ?_)
    refine lv_aload_n hx hb d_Lamp_drain_26 rfl (lv_at hl 0 rfl) ?_
    refine lv_iconst (v := 0) hx hb d_Lamp_drain_27 (by decide) ?_
    refine zput (ci := k) (fs := [.ref aC, .int kd, .int ht, .int 0, .int σ.1, .int lt]) (ty := .boolean) (v := .int 0) (ws2 := wl c1 c2 aC aD aE aL k d kd ht 0 0 rest j σ) E hK hP hD hS (j + 3) (zg hj) (zC_K hk) t_Lamp o_Lamp n_Lamp 5 (by decide) kw_132 (Or.inl rfl) rfl rfl rfl rfl (Nat.le_of_ble_eq_true rfl) d_Lamp_drain_28 (zs) (fun H locs hP hD hS => ?_)
    exact zrv E hK hP hD hS d_Lamp_drain_31
  · rw [if_neg h1, if_neg h1]
    refine zM_of "CoastLamps$Lamp" rfl (by decide) (Nat.le_of_ble_eq_true rfl) ?_
    intro p e s m below meth c ls E hP hK hD hS hl
    obtain ⟨hx, hb, hml, ho, hts, hr, hlk⟩ := id E
    have hl : lv_has ls 2 [(0, .ref aL), (1, .int x)] := hl
    refine lv_aload_n hx hb d_Lamp_drain_0 rfl (lv_at hl 0 rfl) ?_
    refine zget (ci := k) (fs := [.ref aC, .int kd, .int ht, .int tk, .int σ.1, .int lt]) E hK hP (j + 3) (zg hj) (zC_K hk) 3 (by decide) kw_120 (Or.inl rfl) rfl d_Lamp_drain_1 ?_
    refine lv_iload_n hx hb d_Lamp_drain_4 rfl (lv_at hl 1 rfl) ?_
    refine lv_icmp_le (tgt := 21) hx hb d_Lamp_drain_5 (by decide) (fun h9 => absurd h9 (h1)) (fun _ => ?_)
    refine lv_aload_n hx hb d_Lamp_drain_8 rfl (lv_at hl 0 rfl) ?_
    refine lv_dup hx hb d_Lamp_drain_9 rfl ?_
    refine zget (ci := k) (fs := [.ref aC, .int kd, .int ht, .int tk, .int σ.1, .int lt]) E hK hP (j + 3) (zg hj) (zC_K hk) 3 (by decide) kw_120 (Or.inl rfl) rfl d_Lamp_drain_10 ?_
    refine lv_iload_n hx hb d_Lamp_drain_13 rfl (lv_at hl 1 rfl) ?_
    refine lv_isub hx hb d_Lamp_drain_14 ?_
    refine zput (ci := k) (fs := [.ref aC, .int kd, .int ht, .int tk, .int σ.1, .int lt]) (ty := .int) (v := .int (tk - x)) (ws2 := wl c1 c2 aC aD aE aL k d kd ht (tk - x) lt rest j σ) E hK hP hD hS (j + 3) (zg hj) (zC_K hk) t_Lamp o_Lamp n_Lamp 3 (by decide) kw_120 (Or.inl rfl) rfl rfl rfl rfl (Nat.le_of_ble_eq_true rfl) d_Lamp_drain_15 (zs) (fun H locs hP hD hS => ?_)
    refine lv_goto (tgt := 31) hx hb d_Lamp_drain_18 (by decide) ?_
    exact zrv E hK hP hD hS d_Lamp_drain_31
set_option maxHeartbeats 1000000 in
set_option maxRecDepth 100000 in
theorem c_horn_2 (l : Launch) (dC : Nat → ClassId) (dI : Nat → Nat → Nat) (c1 c2 c3 : ClassId) (A : Nat → Prop) (aC aD aE aL : Nat) (d : Nat → Int32) (kd ht tk lt : Int32) (rest : va_W) (j : Nat) (hj : j < rest.length) (σ : zS) (x : Int32) : zM l y_Lamp_horn b_Lamp_horn 3 (some (FieldType.int)) 4 86 [.ref aL, .int x] (dC, dI) (t3 c1 c2 c3) A (wl c1 c2 aC aD aE aL 2 d kd ht tk lt rest j σ) (wl c1 c2 aC aD aE aL 2 d kd ht tk lt rest j (hornK 2 d ht tk x σ).2) (some (.int (hornK 2 d ht tk x σ).1)) := by
  rw [show hornK 2 d ht tk x σ = ((oOil (σ.1, tb 5 σ.2)).1 * x + (rTwin d ht 0 ((oOil (σ.1, tb 5 σ.2)).2)).1, (rTwin d ht 0 ((oOil (σ.1, tb 5 σ.2)).2)).2) from rfl]
  dsimp only
  refine zM_of "CoastLamps$Lamp" rfl (by decide) (Nat.le_of_ble_eq_true rfl) ?_
  intro p e s m below meth c ls E hP hK hD hS hl
  obtain ⟨hx, hb, hml, ho, hts, hr, hlk⟩ := id E
  have hl : lv_has ls 3 [(0, .ref aL), (1, .int x)] := hl
  refine lv_aload_n hx hb d_Lamp_horn_0 rfl (lv_at hl 0 rfl) ?_
  refine zget (ci := 2) (fs := [.ref aC, .int kd, .int ht, .int tk, .int σ.1, .int lt]) E hK hP (j + 3) (zg hj) (zC_K (by decide)) 0 (by decide) kw_97 (Or.inl rfl) rfl d_Lamp_horn_1 ?_
  refine lv_iconst (v := 0) hx hb d_Lamp_horn_4 (by decide) ?_
  refine lv_iconst (v := 5) hx hb d_Lamp_horn_5 (by decide) ?_
  refine zcV (As := [.int 0, .int 5]) (rest := []) (ci := 9) E cy_Coast_begins kw_293 kw_294 kw_334 (c_Coast_begins l dC dI c1 c2 c3 A aC aD aE d (rest.set j (wL aC aL 2 kd ht tk σ.1 lt)) σ.2 0 5 5 (by decide)) hK hP hD hS 0 rfl zC_Coast.1 rfl rfl hl.1 rfl (Nat.le_of_ble_eq_true rfl) ⟨Nat.le_of_ble_eq_true rfl, Nat.le_of_ble_eq_true rfl⟩ d_Lamp_horn_6 ⟨Nat.le_refl _, Nat.le_refl _⟩ (fun H locs hP hD hS => ?_)
  have hP : va_P (dC, dI) classes (wl c1 c2 aC aD aE aL 2 d kd ht tk lt rest j (σ.1, tb 5 σ.2)) H := hP
  have hD : va_D A (wl c1 c2 aC aD aE aL 2 d kd ht tk lt rest j (σ.1, tb 5 σ.2)) := hD
  refine lv_aload_n hx hb d_Lamp_horn_9 rfl (lv_at hl 0 rfl) ?_
  refine zcU (x := y_Lamp_tone) (owner := "CoastLamps$Lamp") (As := []) (rest := []) (ci := 2) E cy_Oil_tone cy_Lamp_tone kw_489 kw_494 kw_495 kw_512 kw_493 (c_Oil_tone l dC dI c1 c2 c3 A aC aD aE aL 2 (by decide) d kd ht tk lt rest j hj (σ.1, tb 5 σ.2)) hK hP hD hS (j + 3) (zg hj) (zC_K (by decide)).1 rfl hl.1 rfl (Nat.le_of_ble_eq_true rfl) ⟨Nat.le_of_ble_eq_true rfl, Nat.le_of_ble_eq_true rfl⟩ d_Lamp_horn_10 ⟨Nat.le_refl _, Nat.le_refl _⟩ (fun H locs hP hD hS => ?_)
  have hP : va_P (dC, dI) classes (wl c1 c2 aC aD aE aL 2 d kd ht tk lt rest j ((oOil (σ.1, tb 5 σ.2)).2)) H := hP
  have hD : va_D A (wl c1 c2 aC aD aE aL 2 d kd ht tk lt rest j ((oOil (σ.1, tb 5 σ.2)).2)) := hD
  refine lv_iload_n hx hb d_Lamp_horn_13 rfl (lv_at hl 1 rfl) ?_
  refine lv_imul hx hb d_Lamp_horn_14 ?_
  refine lv_istore_n (lv' := [(2, .int (((oOil (σ.1, tb 5 σ.2)).1) * x)), (0, .ref aL), (1, .int x)]) hx hb d_Lamp_horn_15 rfl hl (by decide) rfl (fun ls hl => ?_)
  refine lv_iload_n hx hb d_Lamp_horn_16 rfl (lv_at hl 0 rfl) ?_
  refine lv_aload_n hx hb d_Lamp_horn_17 rfl (lv_at hl 1 rfl) ?_
  refine lv_iconst (v := 0) hx hb d_Lamp_horn_18 (by decide) ?_
  refine zcU (x := y_Lamp_reach) (owner := "CoastLamps$Lamp") (As := [.int 0]) (rest := [.int (((oOil (σ.1, tb 5 σ.2)).1) * x)]) (ci := 2) E cy_Twin_reach cy_Lamp_reach kw_355 kw_337 kw_338 kw_372 kw_514 (c_Twin_reach l dC dI c1 c2 c3 A aC aD aE aL 2 (by decide) d kd ht tk lt rest j hj ((oOil (σ.1, tb 5 σ.2)).2) 0) hK hP hD hS (j + 3) (zg hj) (zC_K (by decide)).1 rfl hl.1 rfl (Nat.le_of_ble_eq_true rfl) ⟨Nat.le_of_ble_eq_true rfl, Nat.le_of_ble_eq_true rfl⟩ d_Lamp_horn_19 ⟨Nat.le_refl _, Nat.le_refl _⟩ (fun H locs hP hD hS => ?_)
  have hP : va_P (dC, dI) classes (wl c1 c2 aC aD aE aL 2 d kd ht tk lt rest j ((rTwin d ht 0 ((oOil (σ.1, tb 5 σ.2)).2)).2)) H := hP
  have hD : va_D A (wl c1 c2 aC aD aE aL 2 d kd ht tk lt rest j ((rTwin d ht 0 ((oOil (σ.1, tb 5 σ.2)).2)).2)) := hD
  refine lv_iadd hx hb d_Lamp_horn_22 ?_
  exact zri E hK hP hD hS d_Lamp_horn_23
set_option maxHeartbeats 1000000 in
set_option maxRecDepth 100000 in
theorem c_horn_3 (l : Launch) (dC : Nat → ClassId) (dI : Nat → Nat → Nat) (c1 c2 c3 : ClassId) (A : Nat → Prop) (aC aD aE aL : Nat) (d : Nat → Int32) (kd ht tk lt : Int32) (rest : va_W) (j : Nat) (hj : j < rest.length) (σ : zS) (x : Int32) : zM l y_Lamp_horn b_Lamp_horn 3 (some (FieldType.int)) 5 107 [.ref aL, .int x] (dC, dI) (t3 c1 c2 c3) A (wl c1 c2 aC aD aE aL 3 d kd ht tk lt rest j σ) (wl c1 c2 aC aD aE aL 3 d kd ht tk lt rest j (hornK 3 d ht tk x σ).2) (some (.int (hornK 3 d ht tk x σ).1)) := by
  rw [show hornK 3 d ht tk x σ = ((oDrum d (σ.1, tb 5 σ.2)).1 * x + (rDrum d ht 0 ((oDrum d (σ.1, tb 5 σ.2)).2)).1, (rDrum d ht 0 ((oDrum d (σ.1, tb 5 σ.2)).2)).2) from rfl]
  dsimp only
  refine zM_of "CoastLamps$Lamp" rfl (by decide) (Nat.le_of_ble_eq_true rfl) ?_
  intro p e s m below meth c ls E hP hK hD hS hl
  obtain ⟨hx, hb, hml, ho, hts, hr, hlk⟩ := id E
  have hl : lv_has ls 3 [(0, .ref aL), (1, .int x)] := hl
  refine lv_aload_n hx hb d_Lamp_horn_0 rfl (lv_at hl 0 rfl) ?_
  refine zget (ci := 3) (fs := [.ref aC, .int kd, .int ht, .int tk, .int σ.1, .int lt]) E hK hP (j + 3) (zg hj) (zC_K (by decide)) 0 (by decide) kw_97 (Or.inl rfl) rfl d_Lamp_horn_1 ?_
  refine lv_iconst (v := 0) hx hb d_Lamp_horn_4 (by decide) ?_
  refine lv_iconst (v := 5) hx hb d_Lamp_horn_5 (by decide) ?_
  refine zcV (As := [.int 0, .int 5]) (rest := []) (ci := 9) E cy_Coast_begins kw_293 kw_294 kw_334 (c_Coast_begins l dC dI c1 c2 c3 A aC aD aE d (rest.set j (wL aC aL 3 kd ht tk σ.1 lt)) σ.2 0 5 5 (by decide)) hK hP hD hS 0 rfl zC_Coast.1 rfl rfl hl.1 rfl (Nat.le_of_ble_eq_true rfl) ⟨Nat.le_of_ble_eq_true rfl, Nat.le_of_ble_eq_true rfl⟩ d_Lamp_horn_6 ⟨Nat.le_refl _, Nat.le_refl _⟩ (fun H locs hP hD hS => ?_)
  have hP : va_P (dC, dI) classes (wl c1 c2 aC aD aE aL 3 d kd ht tk lt rest j (σ.1, tb 5 σ.2)) H := hP
  have hD : va_D A (wl c1 c2 aC aD aE aL 3 d kd ht tk lt rest j (σ.1, tb 5 σ.2)) := hD
  refine lv_aload_n hx hb d_Lamp_horn_9 rfl (lv_at hl 0 rfl) ?_
  refine zcU (x := y_Lamp_tone) (owner := "CoastLamps$Lamp") (As := []) (rest := []) (ci := 3) E cy_Drum_tone cy_Lamp_tone kw_484 kw_494 kw_495 kw_499 kw_493 (c_Drum_tone l dC dI c1 c2 c3 A aC aD aE aL 3 (by decide) d kd ht tk lt rest j hj (σ.1, tb 5 σ.2)) hK hP hD hS (j + 3) (zg hj) (zC_K (by decide)).1 rfl hl.1 rfl (Nat.le_of_ble_eq_true rfl) ⟨Nat.le_of_ble_eq_true rfl, Nat.le_of_ble_eq_true rfl⟩ d_Lamp_horn_10 ⟨Nat.le_refl _, Nat.le_refl _⟩ (fun H locs hP hD hS => ?_)
  have hP : va_P (dC, dI) classes (wl c1 c2 aC aD aE aL 3 d kd ht tk lt rest j ((oDrum d (σ.1, tb 5 σ.2)).2)) H := hP
  have hD : va_D A (wl c1 c2 aC aD aE aL 3 d kd ht tk lt rest j ((oDrum d (σ.1, tb 5 σ.2)).2)) := hD
  refine lv_iload_n hx hb d_Lamp_horn_13 rfl (lv_at hl 1 rfl) ?_
  refine lv_imul hx hb d_Lamp_horn_14 ?_
  refine lv_istore_n (lv' := [(2, .int (((oDrum d (σ.1, tb 5 σ.2)).1) * x)), (0, .ref aL), (1, .int x)]) hx hb d_Lamp_horn_15 rfl hl (by decide) rfl (fun ls hl => ?_)
  refine lv_iload_n hx hb d_Lamp_horn_16 rfl (lv_at hl 0 rfl) ?_
  refine lv_aload_n hx hb d_Lamp_horn_17 rfl (lv_at hl 1 rfl) ?_
  refine lv_iconst (v := 0) hx hb d_Lamp_horn_18 (by decide) ?_
  refine zcU (x := y_Lamp_reach) (owner := "CoastLamps$Lamp") (As := [.int 0]) (rest := [.int (((oDrum d (σ.1, tb 5 σ.2)).1) * x)]) (ci := 3) E cy_Drum_reach cy_Lamp_reach kw_351 kw_337 kw_338 kw_350 kw_514 (c_Drum_reach l dC dI c1 c2 c3 A aC aD aE aL 3 (by decide) d kd ht tk lt rest j hj ((oDrum d (σ.1, tb 5 σ.2)).2) 0) hK hP hD hS (j + 3) (zg hj) (zC_K (by decide)).1 rfl hl.1 rfl (Nat.le_of_ble_eq_true rfl) ⟨Nat.le_of_ble_eq_true rfl, Nat.le_of_ble_eq_true rfl⟩ d_Lamp_horn_19 ⟨Nat.le_refl _, Nat.le_refl _⟩ (fun H locs hP hD hS => ?_)
  have hP : va_P (dC, dI) classes (wl c1 c2 aC aD aE aL 3 d kd ht tk lt rest j ((rDrum d ht 0 ((oDrum d (σ.1, tb 5 σ.2)).2)).2)) H := hP
  have hD : va_D A (wl c1 c2 aC aD aE aL 3 d kd ht tk lt rest j ((rDrum d ht 0 ((oDrum d (σ.1, tb 5 σ.2)).2)).2)) := hD
  refine lv_iadd hx hb d_Lamp_horn_22 ?_
  exact zri E hK hP hD hS d_Lamp_horn_23
set_option maxHeartbeats 1000000 in
set_option maxRecDepth 100000 in
theorem c_horn_6 (l : Launch) (dC : Nat → ClassId) (dI : Nat → Nat → Nat) (c1 c2 c3 : ClassId) (A : Nat → Prop) (aC aD aE aL : Nat) (d : Nat → Int32) (kd ht tk lt : Int32) (rest : va_W) (j : Nat) (hj : j < rest.length) (σ : zS) (x : Int32) : zM l y_Lamp_horn b_Lamp_horn 3 (some (FieldType.int)) 3 64 [.ref aL, .int x] (dC, dI) (t3 c1 c2 c3) A (wl c1 c2 aC aD aE aL 6 d kd ht tk lt rest j σ) (wl c1 c2 aC aD aE aL 6 d kd ht tk lt rest j (hornK 6 d ht tk x σ).2) (some (.int (hornK 6 d ht tk x σ).1)) := by
  rw [show hornK 6 d ht tk x σ = ((oFlare (σ.1, tb 5 σ.2)).1 * x + (rGas ht 0 ((oFlare (σ.1, tb 5 σ.2)).2)).1, (rGas ht 0 ((oFlare (σ.1, tb 5 σ.2)).2)).2) from rfl]
  dsimp only
  refine zM_of "CoastLamps$Lamp" rfl (by decide) (Nat.le_of_ble_eq_true rfl) ?_
  intro p e s m below meth c ls E hP hK hD hS hl
  obtain ⟨hx, hb, hml, ho, hts, hr, hlk⟩ := id E
  have hl : lv_has ls 3 [(0, .ref aL), (1, .int x)] := hl
  refine lv_aload_n hx hb d_Lamp_horn_0 rfl (lv_at hl 0 rfl) ?_
  refine zget (ci := 6) (fs := [.ref aC, .int kd, .int ht, .int tk, .int σ.1, .int lt]) E hK hP (j + 3) (zg hj) (zC_K (by decide)) 0 (by decide) kw_97 (Or.inl rfl) rfl d_Lamp_horn_1 ?_
  refine lv_iconst (v := 0) hx hb d_Lamp_horn_4 (by decide) ?_
  refine lv_iconst (v := 5) hx hb d_Lamp_horn_5 (by decide) ?_
  refine zcV (As := [.int 0, .int 5]) (rest := []) (ci := 9) E cy_Coast_begins kw_293 kw_294 kw_334 (c_Coast_begins l dC dI c1 c2 c3 A aC aD aE d (rest.set j (wL aC aL 6 kd ht tk σ.1 lt)) σ.2 0 5 5 (by decide)) hK hP hD hS 0 rfl zC_Coast.1 rfl rfl hl.1 rfl (Nat.le_of_ble_eq_true rfl) ⟨Nat.le_of_ble_eq_true rfl, Nat.le_of_ble_eq_true rfl⟩ d_Lamp_horn_6 ⟨Nat.le_refl _, Nat.le_refl _⟩ (fun H locs hP hD hS => ?_)
  have hP : va_P (dC, dI) classes (wl c1 c2 aC aD aE aL 6 d kd ht tk lt rest j (σ.1, tb 5 σ.2)) H := hP
  have hD : va_D A (wl c1 c2 aC aD aE aL 6 d kd ht tk lt rest j (σ.1, tb 5 σ.2)) := hD
  refine lv_aload_n hx hb d_Lamp_horn_9 rfl (lv_at hl 0 rfl) ?_
  refine zcU (x := y_Lamp_tone) (owner := "CoastLamps$Lamp") (As := []) (rest := []) (ci := 6) E cy_Flare_tone cy_Lamp_tone kw_497 kw_494 kw_495 kw_500 kw_493 (c_Flare_tone l dC dI c1 c2 c3 A aC aD aE aL 6 (by decide) d kd ht tk lt rest j hj (σ.1, tb 5 σ.2)) hK hP hD hS (j + 3) (zg hj) (zC_K (by decide)).1 rfl hl.1 rfl (Nat.le_of_ble_eq_true rfl) ⟨Nat.le_of_ble_eq_true rfl, Nat.le_of_ble_eq_true rfl⟩ d_Lamp_horn_10 ⟨Nat.le_refl _, Nat.le_refl _⟩ (fun H locs hP hD hS => ?_)
  have hP : va_P (dC, dI) classes (wl c1 c2 aC aD aE aL 6 d kd ht tk lt rest j ((oFlare (σ.1, tb 5 σ.2)).2)) H := hP
  have hD : va_D A (wl c1 c2 aC aD aE aL 6 d kd ht tk lt rest j ((oFlare (σ.1, tb 5 σ.2)).2)) := hD
  refine lv_iload_n hx hb d_Lamp_horn_13 rfl (lv_at hl 1 rfl) ?_
  refine lv_imul hx hb d_Lamp_horn_14 ?_
  refine lv_istore_n (lv' := [(2, .int (((oFlare (σ.1, tb 5 σ.2)).1) * x)), (0, .ref aL), (1, .int x)]) hx hb d_Lamp_horn_15 rfl hl (by decide) rfl (fun ls hl => ?_)
  refine lv_iload_n hx hb d_Lamp_horn_16 rfl (lv_at hl 0 rfl) ?_
  refine lv_aload_n hx hb d_Lamp_horn_17 rfl (lv_at hl 1 rfl) ?_
  refine lv_iconst (v := 0) hx hb d_Lamp_horn_18 (by decide) ?_
  refine zcU (x := y_Lamp_reach) (owner := "CoastLamps$Lamp") (As := [.int 0]) (rest := [.int (((oFlare (σ.1, tb 5 σ.2)).1) * x)]) (ci := 6) E cy_Gas_reach cy_Lamp_reach kw_346 kw_337 kw_338 kw_366 kw_514 (c_Gas_reach l dC dI c1 c2 c3 A aC aD aE aL 6 (by decide) d kd ht tk lt rest j hj ((oFlare (σ.1, tb 5 σ.2)).2) 0) hK hP hD hS (j + 3) (zg hj) (zC_K (by decide)).1 rfl hl.1 rfl (Nat.le_of_ble_eq_true rfl) ⟨Nat.le_of_ble_eq_true rfl, Nat.le_of_ble_eq_true rfl⟩ d_Lamp_horn_19 ⟨Nat.le_refl _, Nat.le_refl _⟩ (fun H locs hP hD hS => ?_)
  have hP : va_P (dC, dI) classes (wl c1 c2 aC aD aE aL 6 d kd ht tk lt rest j ((rGas ht 0 ((oFlare (σ.1, tb 5 σ.2)).2)).2)) H := hP
  have hD : va_D A (wl c1 c2 aC aD aE aL 6 d kd ht tk lt rest j ((rGas ht 0 ((oFlare (σ.1, tb 5 σ.2)).2)).2)) := hD
  refine lv_iadd hx hb d_Lamp_horn_22 ?_
  exact zri E hK hP hD hS d_Lamp_horn_23
set_option maxHeartbeats 1000000 in
set_option maxRecDepth 100000 in
theorem c_horn_7 (l : Launch) (dC : Nat → ClassId) (dI : Nat → Nat → Nat) (c1 c2 c3 : ClassId) (A : Nat → Prop) (aC aD aE aL : Nat) (d : Nat → Int32) (kd ht tk lt : Int32) (rest : va_W) (j : Nat) (hj : j < rest.length) (σ : zS) (x : Int32) : zM l y_Lamp_horn b_Lamp_horn 3 (some (FieldType.int)) 4 85 [.ref aL, .int x] (dC, dI) (t3 c1 c2 c3) A (wl c1 c2 aC aD aE aL 7 d kd ht tk lt rest j σ) (wl c1 c2 aC aD aE aL 7 d kd ht tk lt rest j (hornK 7 d ht tk x σ).2) (some (.int (hornK 7 d ht tk x σ).1)) := by
  rw [show hornK 7 d ht tk x σ = ((oFlare (σ.1, tb 5 σ.2)).1 * x + (rBuoy ht 0 ((oFlare (σ.1, tb 5 σ.2)).2)).1, (rBuoy ht 0 ((oFlare (σ.1, tb 5 σ.2)).2)).2) from rfl]
  dsimp only
  refine zM_of "CoastLamps$Lamp" rfl (by decide) (Nat.le_of_ble_eq_true rfl) ?_
  intro p e s m below meth c ls E hP hK hD hS hl
  obtain ⟨hx, hb, hml, ho, hts, hr, hlk⟩ := id E
  have hl : lv_has ls 3 [(0, .ref aL), (1, .int x)] := hl
  refine lv_aload_n hx hb d_Lamp_horn_0 rfl (lv_at hl 0 rfl) ?_
  refine zget (ci := 7) (fs := [.ref aC, .int kd, .int ht, .int tk, .int σ.1, .int lt]) E hK hP (j + 3) (zg hj) (zC_K (by decide)) 0 (by decide) kw_97 (Or.inl rfl) rfl d_Lamp_horn_1 ?_
  refine lv_iconst (v := 0) hx hb d_Lamp_horn_4 (by decide) ?_
  refine lv_iconst (v := 5) hx hb d_Lamp_horn_5 (by decide) ?_
  refine zcV (As := [.int 0, .int 5]) (rest := []) (ci := 9) E cy_Coast_begins kw_293 kw_294 kw_334 (c_Coast_begins l dC dI c1 c2 c3 A aC aD aE d (rest.set j (wL aC aL 7 kd ht tk σ.1 lt)) σ.2 0 5 5 (by decide)) hK hP hD hS 0 rfl zC_Coast.1 rfl rfl hl.1 rfl (Nat.le_of_ble_eq_true rfl) ⟨Nat.le_of_ble_eq_true rfl, Nat.le_of_ble_eq_true rfl⟩ d_Lamp_horn_6 ⟨Nat.le_refl _, Nat.le_refl _⟩ (fun H locs hP hD hS => ?_)
  have hP : va_P (dC, dI) classes (wl c1 c2 aC aD aE aL 7 d kd ht tk lt rest j (σ.1, tb 5 σ.2)) H := hP
  have hD : va_D A (wl c1 c2 aC aD aE aL 7 d kd ht tk lt rest j (σ.1, tb 5 σ.2)) := hD
  refine lv_aload_n hx hb d_Lamp_horn_9 rfl (lv_at hl 0 rfl) ?_
  refine zcU (x := y_Lamp_tone) (owner := "CoastLamps$Lamp") (As := []) (rest := []) (ci := 7) E cy_Flare_tone cy_Lamp_tone kw_497 kw_494 kw_495 kw_496 kw_493 (c_Flare_tone l dC dI c1 c2 c3 A aC aD aE aL 7 (by decide) d kd ht tk lt rest j hj (σ.1, tb 5 σ.2)) hK hP hD hS (j + 3) (zg hj) (zC_K (by decide)).1 rfl hl.1 rfl (Nat.le_of_ble_eq_true rfl) ⟨Nat.le_of_ble_eq_true rfl, Nat.le_of_ble_eq_true rfl⟩ d_Lamp_horn_10 ⟨Nat.le_refl _, Nat.le_refl _⟩ (fun H locs hP hD hS => ?_)
  have hP : va_P (dC, dI) classes (wl c1 c2 aC aD aE aL 7 d kd ht tk lt rest j ((oFlare (σ.1, tb 5 σ.2)).2)) H := hP
  have hD : va_D A (wl c1 c2 aC aD aE aL 7 d kd ht tk lt rest j ((oFlare (σ.1, tb 5 σ.2)).2)) := hD
  refine lv_iload_n hx hb d_Lamp_horn_13 rfl (lv_at hl 1 rfl) ?_
  refine lv_imul hx hb d_Lamp_horn_14 ?_
  refine lv_istore_n (lv' := [(2, .int (((oFlare (σ.1, tb 5 σ.2)).1) * x)), (0, .ref aL), (1, .int x)]) hx hb d_Lamp_horn_15 rfl hl (by decide) rfl (fun ls hl => ?_)
  refine lv_iload_n hx hb d_Lamp_horn_16 rfl (lv_at hl 0 rfl) ?_
  refine lv_aload_n hx hb d_Lamp_horn_17 rfl (lv_at hl 1 rfl) ?_
  refine lv_iconst (v := 0) hx hb d_Lamp_horn_18 (by decide) ?_
  refine zcU (x := y_Lamp_reach) (owner := "CoastLamps$Lamp") (As := [.int 0]) (rest := [.int (((oFlare (σ.1, tb 5 σ.2)).1) * x)]) (ci := 7) E cy_Buoy_reach cy_Lamp_reach kw_340 kw_337 kw_338 kw_339 kw_514 (c_Buoy_reach l dC dI c1 c2 c3 A aC aD aE aL 7 (by decide) d kd ht tk lt rest j hj ((oFlare (σ.1, tb 5 σ.2)).2) 0) hK hP hD hS (j + 3) (zg hj) (zC_K (by decide)).1 rfl hl.1 rfl (Nat.le_of_ble_eq_true rfl) ⟨Nat.le_of_ble_eq_true rfl, Nat.le_of_ble_eq_true rfl⟩ d_Lamp_horn_19 ⟨Nat.le_refl _, Nat.le_refl _⟩ (fun H locs hP hD hS => ?_)
  have hP : va_P (dC, dI) classes (wl c1 c2 aC aD aE aL 7 d kd ht tk lt rest j ((rBuoy ht 0 ((oFlare (σ.1, tb 5 σ.2)).2)).2)) H := hP
  have hD : va_D A (wl c1 c2 aC aD aE aL 7 d kd ht tk lt rest j ((rBuoy ht 0 ((oFlare (σ.1, tb 5 σ.2)).2)).2)) := hD
  refine lv_iadd hx hb d_Lamp_horn_22 ?_
  exact zri E hK hP hD hS d_Lamp_horn_23
set_option maxHeartbeats 1000000 in
set_option maxRecDepth 100000 in
theorem c_horn_8 (l : Launch) (dC : Nat → ClassId) (dI : Nat → Nat → Nat) (c1 c2 c3 : ClassId) (A : Nat → Prop) (aC aD aE aL : Nat) (d : Nat → Int32) (kd ht tk lt : Int32) (rest : va_W) (j : Nat) (hj : j < rest.length) (σ : zS) (x : Int32) : zM l y_Lamp_horn b_Lamp_horn 3 (some (FieldType.int)) 5 103 [.ref aL, .int x] (dC, dI) (t3 c1 c2 c3) A (wl c1 c2 aC aD aE aL 8 d kd ht tk lt rest j σ) (wl c1 c2 aC aD aE aL 8 d kd ht tk lt rest j (hornK 8 d ht tk x σ).2) (some (.int (hornK 8 d ht tk x σ).1)) := by
  rw [show hornK 8 d ht tk x σ = ((oOuter ht tk (σ.1, tb 5 σ.2)).1 * x + (rBuoy ht 0 ((oOuter ht tk (σ.1, tb 5 σ.2)).2)).1, (rBuoy ht 0 ((oOuter ht tk (σ.1, tb 5 σ.2)).2)).2) from rfl]
  dsimp only
  refine zM_of "CoastLamps$Lamp" rfl (by decide) (Nat.le_of_ble_eq_true rfl) ?_
  intro p e s m below meth c ls E hP hK hD hS hl
  obtain ⟨hx, hb, hml, ho, hts, hr, hlk⟩ := id E
  have hl : lv_has ls 3 [(0, .ref aL), (1, .int x)] := hl
  refine lv_aload_n hx hb d_Lamp_horn_0 rfl (lv_at hl 0 rfl) ?_
  refine zget (ci := 8) (fs := [.ref aC, .int kd, .int ht, .int tk, .int σ.1, .int lt]) E hK hP (j + 3) (zg hj) (zC_K (by decide)) 0 (by decide) kw_97 (Or.inl rfl) rfl d_Lamp_horn_1 ?_
  refine lv_iconst (v := 0) hx hb d_Lamp_horn_4 (by decide) ?_
  refine lv_iconst (v := 5) hx hb d_Lamp_horn_5 (by decide) ?_
  refine zcV (As := [.int 0, .int 5]) (rest := []) (ci := 9) E cy_Coast_begins kw_293 kw_294 kw_334 (c_Coast_begins l dC dI c1 c2 c3 A aC aD aE d (rest.set j (wL aC aL 8 kd ht tk σ.1 lt)) σ.2 0 5 5 (by decide)) hK hP hD hS 0 rfl zC_Coast.1 rfl rfl hl.1 rfl (Nat.le_of_ble_eq_true rfl) ⟨Nat.le_of_ble_eq_true rfl, Nat.le_of_ble_eq_true rfl⟩ d_Lamp_horn_6 ⟨Nat.le_refl _, Nat.le_refl _⟩ (fun H locs hP hD hS => ?_)
  have hP : va_P (dC, dI) classes (wl c1 c2 aC aD aE aL 8 d kd ht tk lt rest j (σ.1, tb 5 σ.2)) H := hP
  have hD : va_D A (wl c1 c2 aC aD aE aL 8 d kd ht tk lt rest j (σ.1, tb 5 σ.2)) := hD
  refine lv_aload_n hx hb d_Lamp_horn_9 rfl (lv_at hl 0 rfl) ?_
  refine zcU (x := y_Lamp_tone) (owner := "CoastLamps$Lamp") (As := []) (rest := []) (ci := 8) E cy_Outer_tone cy_Lamp_tone kw_504 kw_494 kw_495 kw_503 kw_493 (c_Outer_tone l dC dI c1 c2 c3 A aC aD aE aL d kd ht tk lt rest j hj (σ.1, tb 5 σ.2)) hK hP hD hS (j + 3) (zg hj) (zC_K (by decide)).1 rfl hl.1 rfl (Nat.le_of_ble_eq_true rfl) ⟨Nat.le_of_ble_eq_true rfl, Nat.le_of_ble_eq_true rfl⟩ d_Lamp_horn_10 ⟨Nat.le_refl _, Nat.le_refl _⟩ (fun H locs hP hD hS => ?_)
  have hP : va_P (dC, dI) classes (wl c1 c2 aC aD aE aL 8 d kd ht tk lt rest j ((oOuter ht tk (σ.1, tb 5 σ.2)).2)) H := hP
  have hD : va_D A (wl c1 c2 aC aD aE aL 8 d kd ht tk lt rest j ((oOuter ht tk (σ.1, tb 5 σ.2)).2)) := hD
  refine lv_iload_n hx hb d_Lamp_horn_13 rfl (lv_at hl 1 rfl) ?_
  refine lv_imul hx hb d_Lamp_horn_14 ?_
  refine lv_istore_n (lv' := [(2, .int (((oOuter ht tk (σ.1, tb 5 σ.2)).1) * x)), (0, .ref aL), (1, .int x)]) hx hb d_Lamp_horn_15 rfl hl (by decide) rfl (fun ls hl => ?_)
  refine lv_iload_n hx hb d_Lamp_horn_16 rfl (lv_at hl 0 rfl) ?_
  refine lv_aload_n hx hb d_Lamp_horn_17 rfl (lv_at hl 1 rfl) ?_
  refine lv_iconst (v := 0) hx hb d_Lamp_horn_18 (by decide) ?_
  refine zcU (x := y_Lamp_reach) (owner := "CoastLamps$Lamp") (As := [.int 0]) (rest := [.int (((oOuter ht tk (σ.1, tb 5 σ.2)).1) * x)]) (ci := 8) E cy_Buoy_reach cy_Lamp_reach kw_340 kw_337 kw_338 kw_369 kw_514 (c_Buoy_reach l dC dI c1 c2 c3 A aC aD aE aL 8 (by decide) d kd ht tk lt rest j hj ((oOuter ht tk (σ.1, tb 5 σ.2)).2) 0) hK hP hD hS (j + 3) (zg hj) (zC_K (by decide)).1 rfl hl.1 rfl (Nat.le_of_ble_eq_true rfl) ⟨Nat.le_of_ble_eq_true rfl, Nat.le_of_ble_eq_true rfl⟩ d_Lamp_horn_19 ⟨Nat.le_refl _, Nat.le_refl _⟩ (fun H locs hP hD hS => ?_)
  have hP : va_P (dC, dI) classes (wl c1 c2 aC aD aE aL 8 d kd ht tk lt rest j ((rBuoy ht 0 ((oOuter ht tk (σ.1, tb 5 σ.2)).2)).2)) H := hP
  have hD : va_D A (wl c1 c2 aC aD aE aL 8 d kd ht tk lt rest j ((rBuoy ht 0 ((oOuter ht tk (σ.1, tb 5 σ.2)).2)).2)) := hD
  refine lv_iadd hx hb d_Lamp_horn_22 ?_
  exact zri E hK hP hD hS d_Lamp_horn_23
set_option maxHeartbeats 1000000 in
set_option maxRecDepth 100000 in
theorem c_horn_4 (l : Launch) (dC : Nat → ClassId) (dI : Nat → Nat → Nat) (c1 c2 c3 : ClassId) (A : Nat → Prop) (aC aD aE aL : Nat) (d : Nat → Int32) (kd ht tk lt : Int32) (rest : va_W) (j : Nat) (hj : j < rest.length) (σ : zS) (x : Int32) : zM l y_Swing_horn b_Swing_horn 2 (some (FieldType.int)) 3 62 [.ref aL, .int x] (dC, dI) (t3 c1 c2 c3) A (wl c1 c2 aC aD aE aL 4 d kd ht tk lt rest j σ) (wl c1 c2 aC aD aE aL 4 d kd ht tk lt rest j (hornK 4 d ht tk x σ).2) (some (.int (hornK 4 d ht tk x σ).1)) := by
  rw [show hornK 4 d ht tk x σ = ((oDrum d (σ.1, tb 55 σ.2)).1 + x, (oDrum d (σ.1, tb 55 σ.2)).2) from rfl]
  dsimp only
  refine zM_of "CoastLamps$Swing" rfl (by decide) (Nat.le_of_ble_eq_true rfl) ?_
  intro p e s m below meth c ls E hP hK hD hS hl
  obtain ⟨hx, hb, hml, ho, hts, hr, hlk⟩ := id E
  have hl : lv_has ls 2 [(0, .ref aL), (1, .int x)] := hl
  refine lv_aload_n hx hb d_Swing_horn_0 rfl (lv_at hl 0 rfl) ?_
  refine zget (ci := 4) (fs := [.ref aC, .int kd, .int ht, .int tk, .int σ.1, .int lt]) E hK hP (j + 3) (zg hj) (zC_K (by decide)) 0 (by decide) kw_102 (Or.inr kw_103) rfl d_Swing_horn_1 ?_
  refine lv_iconst (v := 5) hx hb d_Swing_horn_4 (by decide) ?_
  refine lv_iconst (v := 5) hx hb d_Swing_horn_5 (by decide) ?_
  refine zcV (As := [.int 5, .int 5]) (rest := []) (ci := 9) E cy_Coast_begins kw_293 kw_294 kw_328 (c_Coast_begins l dC dI c1 c2 c3 A aC aD aE d (rest.set j (wL aC aL 4 kd ht tk σ.1 lt)) σ.2 5 5 55 (by decide)) hK hP hD hS 0 rfl zC_Coast.1 rfl rfl hl.1 rfl (Nat.le_of_ble_eq_true rfl) ⟨Nat.le_of_ble_eq_true rfl, Nat.le_of_ble_eq_true rfl⟩ d_Swing_horn_6 ⟨Nat.le_refl _, Nat.le_refl _⟩ (fun H locs hP hD hS => ?_)
  have hP : va_P (dC, dI) classes (wl c1 c2 aC aD aE aL 4 d kd ht tk lt rest j (σ.1, tb 55 σ.2)) H := hP
  have hD : va_D A (wl c1 c2 aC aD aE aL 4 d kd ht tk lt rest j (σ.1, tb 55 σ.2)) := hD
  refine lv_aload_n hx hb d_Swing_horn_9 rfl (lv_at hl 0 rfl) ?_
  refine zcU (x := ⟨"CoastLamps$Swing", "tone", "()I"⟩) (owner := "CoastLamps$Drum") (As := []) (rest := []) (ci := 4) E cy_Drum_tone cy_Drum_tone kw_484 kw_484 kw_481 kw_483 kw_480 (c_Drum_tone l dC dI c1 c2 c3 A aC aD aE aL 4 (by decide) d kd ht tk lt rest j hj (σ.1, tb 55 σ.2)) hK hP hD hS (j + 3) (zg hj) (zC_K (by decide)).1 rfl hl.1 rfl (Nat.le_of_ble_eq_true rfl) ⟨Nat.le_of_ble_eq_true rfl, Nat.le_of_ble_eq_true rfl⟩ d_Swing_horn_10 ⟨Nat.le_refl _, Nat.le_refl _⟩ (fun H locs hP hD hS => ?_)
  have hP : va_P (dC, dI) classes (wl c1 c2 aC aD aE aL 4 d kd ht tk lt rest j ((oDrum d (σ.1, tb 55 σ.2)).2)) H := hP
  have hD : va_D A (wl c1 c2 aC aD aE aL 4 d kd ht tk lt rest j ((oDrum d (σ.1, tb 55 σ.2)).2)) := hD
  refine lv_iload_n hx hb d_Swing_horn_13 rfl (lv_at hl 1 rfl) ?_
  refine lv_iadd hx hb d_Swing_horn_14 ?_
  exact zri E hK hP hD hS d_Swing_horn_15
end
section
section DV
variable {p : Program} {l : Launch} {e : Env} {R : Room} {s : State} {m : MethodId} {args : Array Value} {below : List Frame} {meth : Method} {c : Code} {H : Heap} {locs : List Loc} {cells slots : Nat} {Q : State → Prop} {pc : Nat} {ls : Array Slot} {own : String} {b : ByteArray} {n : Nat} {r : Option FieldType}
variable {dC : Nat → ClassId} {dI : Nat → Nat → Nat} {c1 c2 c3 : ClassId} {A : Nat → Prop} {aC aD aE aL k : Nat} {d : Nat → Int32} {kd ht tk lt : Int32} {rest : va_W} {j : Nat} {σ : zS} {x : Int32} {idx : Nat} {st : List Value}
set_option maxHeartbeats 1000000 in
set_option maxRecDepth 100000 in
theorem dv_horned (E : zE p s m args meth c own b n r) (hk : k < 9) (hj : j < rest.length) (hlink : Cond.methodLink own idx y_Lamp_horned ∈ tbl) (hK : va_K (dC, dI) classes (t3 c1 c2 c3) s) (hP : va_P (dC, dI) classes (wl c1 c2 aC aD aE aL k d kd ht tk lt rest j σ) H) (hD : va_D A (wl c1 c2 aC aD aE aL k d kd ht tk lt rest j σ)) (hS : va_S A s.heap H locs) (hl : ls.size = n) (hroom : (st.map fun v => v.category).sum ≤ 8) (hR : 7 ≤ R.frames ∧ 160 ≤ R.locals) (hd : decode b pc = .ok (.invokevirtual idx, 3)) (hcs : cells ≤ R.cells ∧ slots ≤ R.slots)
    (kk : ∀ (H1 : Heap) (locs1 : List Loc), va_P (dC, dI) classes (wl c1 c2 aC aD aE aL k d kd ht tk lt rest j σ) H1 → va_D A (wl c1 c2 aC aD aE aL k d kd ht tk lt rest j σ) → va_S A s.heap H1 locs1 → W p l e R s m args below meth c H1 locs1 cells slots Q (F0 m (pc + 3) ls (.int (zb (hornedK k)) :: st))) : W p l e R s m args below meth c H locs cells slots Q (F0 m pc ls (.ref aL :: st)) := by
  rcases (show k = 0 ∨ k = 1 ∨ k = 2 ∨ k = 3 ∨ k = 4 ∨ k = 5 ∨ k = 6 ∨ k = 7 ∨ k = 8 by omega) with rfl | rfl | rfl | rfl | rfl | rfl | rfl | rfl | rfl
  · exact zcU (x := y_Lamp_horned) (owner := "CoastLamps$Lamp") (As := []) (rest := st) (ci := 0) E cy_Lamp_horned cy_Lamp_horned kw_269 kw_269 kw_270 kw_279 hlink (c_Lamp_horned l dC dI c1 c2 c3 A aC aD aE aL 0 hk d kd ht tk lt rest j hj σ) hK hP hD hS (j + 3) (zg hj) (zC_K hk).1 rfl hl rfl hroom ⟨Nat.le_trans (by decide) hR.1, Nat.le_trans (by decide) hR.2⟩ hd hcs kk
  · exact zcU (x := y_Lamp_horned) (owner := "CoastLamps$Lamp") (As := []) (rest := st) (ci := 1) E cy_Lamp_horned cy_Lamp_horned kw_269 kw_269 kw_270 kw_281 hlink (c_Lamp_horned l dC dI c1 c2 c3 A aC aD aE aL 1 hk d kd ht tk lt rest j hj σ) hK hP hD hS (j + 3) (zg hj) (zC_K hk).1 rfl hl rfl hroom ⟨Nat.le_trans (by decide) hR.1, Nat.le_trans (by decide) hR.2⟩ hd hcs kk
  · exact zcU (x := y_Lamp_horned) (owner := "CoastLamps$Lamp") (As := []) (rest := st) (ci := 2) E cy_Twin_horned cy_Lamp_horned kw_275 kw_269 kw_270 kw_283 hlink (c_Twin_horned l dC dI c1 c2 c3 A aC aD aE aL 2 hk d kd ht tk lt rest j hj σ) hK hP hD hS (j + 3) (zg hj) (zC_K hk).1 rfl hl rfl hroom ⟨Nat.le_trans (by decide) hR.1, Nat.le_trans (by decide) hR.2⟩ hd hcs kk
  · exact zcU (x := y_Lamp_horned) (owner := "CoastLamps$Lamp") (As := []) (rest := st) (ci := 3) E cy_Twin_horned cy_Lamp_horned kw_275 kw_269 kw_270 kw_274 hlink (c_Twin_horned l dC dI c1 c2 c3 A aC aD aE aL 3 hk d kd ht tk lt rest j hj σ) hK hP hD hS (j + 3) (zg hj) (zC_K hk).1 rfl hl rfl hroom ⟨Nat.le_trans (by decide) hR.1, Nat.le_trans (by decide) hR.2⟩ hd hcs kk
  · exact zcU (x := y_Lamp_horned) (owner := "CoastLamps$Lamp") (As := []) (rest := st) (ci := 4) E cy_Twin_horned cy_Lamp_horned kw_275 kw_269 kw_270 kw_282 hlink (c_Twin_horned l dC dI c1 c2 c3 A aC aD aE aL 4 hk d kd ht tk lt rest j hj σ) hK hP hD hS (j + 3) (zg hj) (zC_K hk).1 rfl hl rfl hroom ⟨Nat.le_trans (by decide) hR.1, Nat.le_trans (by decide) hR.2⟩ hd hcs kk
  · exact zcU (x := y_Lamp_horned) (owner := "CoastLamps$Lamp") (As := []) (rest := st) (ci := 5) E cy_Lamp_horned cy_Lamp_horned kw_269 kw_269 kw_270 kw_278 hlink (c_Lamp_horned l dC dI c1 c2 c3 A aC aD aE aL 5 hk d kd ht tk lt rest j hj σ) hK hP hD hS (j + 3) (zg hj) (zC_K hk).1 rfl hl rfl hroom ⟨Nat.le_trans (by decide) hR.1, Nat.le_trans (by decide) hR.2⟩ hd hcs kk
  · exact zcU (x := y_Lamp_horned) (owner := "CoastLamps$Lamp") (As := []) (rest := st) (ci := 6) E cy_Flare_horned cy_Lamp_horned kw_272 kw_269 kw_270 kw_277 hlink (c_Flare_horned l dC dI c1 c2 c3 A aC aD aE aL 6 hk d kd ht tk lt rest j hj σ) hK hP hD hS (j + 3) (zg hj) (zC_K hk).1 rfl hl rfl hroom ⟨Nat.le_trans (by decide) hR.1, Nat.le_trans (by decide) hR.2⟩ hd hcs kk
  · exact zcU (x := y_Lamp_horned) (owner := "CoastLamps$Lamp") (As := []) (rest := st) (ci := 7) E cy_Flare_horned cy_Lamp_horned kw_272 kw_269 kw_270 kw_271 hlink (c_Flare_horned l dC dI c1 c2 c3 A aC aD aE aL 7 hk d kd ht tk lt rest j hj σ) hK hP hD hS (j + 3) (zg hj) (zC_K hk).1 rfl hl rfl hroom ⟨Nat.le_trans (by decide) hR.1, Nat.le_trans (by decide) hR.2⟩ hd hcs kk
  · exact zcU (x := y_Lamp_horned) (owner := "CoastLamps$Lamp") (As := []) (rest := st) (ci := 8) E cy_Flare_horned cy_Lamp_horned kw_272 kw_269 kw_270 kw_280 hlink (c_Flare_horned l dC dI c1 c2 c3 A aC aD aE aL 8 hk d kd ht tk lt rest j hj σ) hK hP hD hS (j + 3) (zg hj) (zC_K hk).1 rfl hl rfl hroom ⟨Nat.le_trans (by decide) hR.1, Nat.le_trans (by decide) hR.2⟩ hd hcs kk
set_option maxHeartbeats 1000000 in
set_option maxRecDepth 100000 in
theorem dv_burn (E : zE p s m args meth c own b n r) (hk : k < 9) (hj : j < rest.length) (hlink : Cond.methodLink own idx y_Lamp_burn ∈ tbl) (hK : va_K (dC, dI) classes (t3 c1 c2 c3) s) (hP : va_P (dC, dI) classes (wl c1 c2 aC aD aE aL k d kd ht tk lt rest j σ) H) (hD : va_D A (wl c1 c2 aC aD aE aL k d kd ht tk lt rest j σ)) (hS : va_S A s.heap H locs) (hl : ls.size = n) (hroom : (st.map fun v => v.category).sum ≤ 8) (hR : 7 ≤ R.frames ∧ 160 ≤ R.locals) (hd : decode b pc = .ok (.invokevirtual idx, 3)) (hcs : cells ≤ R.cells ∧ slots ≤ R.slots)
    (kk : ∀ (H1 : Heap) (locs1 : List Loc), va_P (dC, dI) classes (wl c1 c2 aC aD aE aL k d kd ht tk lt rest j (burnK k d x σ).2) H1 → va_D A (wl c1 c2 aC aD aE aL k d kd ht tk lt rest j (burnK k d x σ).2) → va_S A s.heap H1 locs1 → W p l e R s m args below meth c H1 locs1 cells slots Q (F0 m (pc + 3) ls (.int (burnK k d x σ).1 :: st))) : W p l e R s m args below meth c H locs cells slots Q (F0 m pc ls (.int x :: .ref aL :: st)) := by
  rcases (show k = 0 ∨ k = 1 ∨ k = 2 ∨ k = 3 ∨ k = 4 ∨ k = 5 ∨ k = 6 ∨ k = 7 ∨ k = 8 by omega) with rfl | rfl | rfl | rfl | rfl | rfl | rfl | rfl | rfl
  · exact zcU (x := y_Lamp_burn) (owner := "CoastLamps$Lamp") (As := [.int x]) (rest := st) (ci := 0) E cy_Oil_burn cy_Lamp_burn kw_306 kw_287 kw_288 kw_312 hlink (c_Oil_burn l dC dI c1 c2 c3 A aC aD aE aL 0 hk d kd ht tk lt rest j hj σ x) hK hP hD hS (j + 3) (zg hj) (zC_K hk).1 rfl hl rfl hroom ⟨Nat.le_trans (by decide) hR.1, Nat.le_trans (by decide) hR.2⟩ hd hcs kk
  · exact zcU (x := y_Lamp_burn) (owner := "CoastLamps$Lamp") (As := [.int x]) (rest := st) (ci := 1) E cy_Oil_burn cy_Lamp_burn kw_306 kw_287 kw_288 kw_324 hlink (c_Oil_burn l dC dI c1 c2 c3 A aC aD aE aL 1 hk d kd ht tk lt rest j hj σ x) hK hP hD hS (j + 3) (zg hj) (zC_K hk).1 rfl hl rfl hroom ⟨Nat.le_trans (by decide) hR.1, Nat.le_trans (by decide) hR.2⟩ hd hcs kk
  · exact zcU (x := y_Lamp_burn) (owner := "CoastLamps$Lamp") (As := [.int x]) (rest := st) (ci := 2) E cy_Twin_burn cy_Lamp_burn kw_300 kw_287 kw_288 kw_332 hlink (c_Twin_burn l dC dI c1 c2 c3 A aC aD aE aL 2 hk d kd ht tk lt rest j hj σ x) hK hP hD hS (j + 3) (zg hj) (zC_K hk).1 rfl hl rfl hroom ⟨Nat.le_trans (by decide) hR.1, Nat.le_trans (by decide) hR.2⟩ hd hcs kk
  · exact zcU (x := y_Lamp_burn) (owner := "CoastLamps$Lamp") (As := [.int x]) (rest := st) (ci := 3) E cy_Twin_burn cy_Lamp_burn kw_300 kw_287 kw_288 kw_299 hlink (c_Twin_burn l dC dI c1 c2 c3 A aC aD aE aL 3 hk d kd ht tk lt rest j hj σ x) hK hP hD hS (j + 3) (zg hj) (zC_K hk).1 rfl hl rfl hroom ⟨Nat.le_trans (by decide) hR.1, Nat.le_trans (by decide) hR.2⟩ hd hcs kk
  · exact zcU (x := y_Lamp_burn) (owner := "CoastLamps$Lamp") (As := [.int x]) (rest := st) (ci := 4) E cy_Swing_burn cy_Lamp_burn kw_326 kw_287 kw_288 kw_325 hlink (c_Swing_burn l dC dI c1 c2 c3 A aC aD aE aL 4 hk d kd ht tk lt rest j hj σ x) hK hP hD hS (j + 3) (zg hj) (zC_K hk).1 rfl hl rfl hroom ⟨Nat.le_trans (by decide) hR.1, Nat.le_trans (by decide) hR.2⟩ hd hcs kk
  · exact zcU (x := y_Lamp_burn) (owner := "CoastLamps$Lamp") (As := [.int x]) (rest := st) (ci := 5) E cy_Lamp_burn cy_Lamp_burn kw_287 kw_287 kw_288 kw_311 hlink (c_Lamp_burn l dC dI c1 c2 c3 A aC aD aE aL 5 hk d kd ht tk lt rest j hj σ x) hK hP hD hS (j + 3) (zg hj) (zC_K hk).1 rfl hl rfl hroom ⟨Nat.le_trans (by decide) hR.1, Nat.le_trans (by decide) hR.2⟩ hd hcs kk
  · exact zcU (x := y_Lamp_burn) (owner := "CoastLamps$Lamp") (As := [.int x]) (rest := st) (ci := 6) E cy_Flare_burn cy_Lamp_burn kw_290 kw_287 kw_288 kw_310 hlink (c_Flare_burn l dC dI c1 c2 c3 A aC aD aE aL 6 hk d kd ht tk lt rest j hj σ x) hK hP hD hS (j + 3) (zg hj) (zC_K hk).1 rfl hl rfl hroom ⟨Nat.le_trans (by decide) hR.1, Nat.le_trans (by decide) hR.2⟩ hd hcs kk
  · exact zcU (x := y_Lamp_burn) (owner := "CoastLamps$Lamp") (As := [.int x]) (rest := st) (ci := 7) E cy_Flare_burn cy_Lamp_burn kw_290 kw_287 kw_288 kw_289 hlink (c_Flare_burn l dC dI c1 c2 c3 A aC aD aE aL 7 hk d kd ht tk lt rest j hj σ x) hK hP hD hS (j + 3) (zg hj) (zC_K hk).1 rfl hl rfl hroom ⟨Nat.le_trans (by decide) hR.1, Nat.le_trans (by decide) hR.2⟩ hd hcs kk
  · exact zcU (x := y_Lamp_burn) (owner := "CoastLamps$Lamp") (As := [.int x]) (rest := st) (ci := 8) E cy_Outer_burn cy_Lamp_burn kw_314 kw_287 kw_288 kw_313 hlink (c_Outer_burn l dC dI c1 c2 c3 A aC aD aE aL 8 hk d kd ht tk lt rest j hj σ x) hK hP hD hS (j + 3) (zg hj) (zC_K hk).1 rfl hl rfl hroom ⟨Nat.le_trans (by decide) hR.1, Nat.le_trans (by decide) hR.2⟩ hd hcs kk
set_option maxHeartbeats 1000000 in
set_option maxRecDepth 100000 in
theorem dv_reach (E : zE p s m args meth c own b n r) (hk : k < 9) (hj : j < rest.length) (hlink : Cond.methodLink own idx y_Lamp_reach ∈ tbl) (hK : va_K (dC, dI) classes (t3 c1 c2 c3) s) (hP : va_P (dC, dI) classes (wl c1 c2 aC aD aE aL k d kd ht tk lt rest j σ) H) (hD : va_D A (wl c1 c2 aC aD aE aL k d kd ht tk lt rest j σ)) (hS : va_S A s.heap H locs) (hl : ls.size = n) (hroom : (st.map fun v => v.category).sum ≤ 8) (hR : 7 ≤ R.frames ∧ 160 ≤ R.locals) (hd : decode b pc = .ok (.invokevirtual idx, 3)) (hcs : cells ≤ R.cells ∧ slots ≤ R.slots)
    (kk : ∀ (H1 : Heap) (locs1 : List Loc), va_P (dC, dI) classes (wl c1 c2 aC aD aE aL k d kd ht tk lt rest j (reachK k d ht x σ).2) H1 → va_D A (wl c1 c2 aC aD aE aL k d kd ht tk lt rest j (reachK k d ht x σ).2) → va_S A s.heap H1 locs1 → W p l e R s m args below meth c H1 locs1 cells slots Q (F0 m (pc + 3) ls (.int (reachK k d ht x σ).1 :: st))) : W p l e R s m args below meth c H locs cells slots Q (F0 m pc ls (.int x :: .ref aL :: st)) := by
  rcases (show k = 0 ∨ k = 1 ∨ k = 2 ∨ k = 3 ∨ k = 4 ∨ k = 5 ∨ k = 6 ∨ k = 7 ∨ k = 8 by omega) with rfl | rfl | rfl | rfl | rfl | rfl | rfl | rfl | rfl
  · exact zcU (x := y_Lamp_reach) (owner := "CoastLamps$Lamp") (As := [.int x]) (rest := st) (ci := 0) E cy_Lamp_reach cy_Lamp_reach kw_337 kw_337 kw_338 kw_368 hlink (c_Lamp_reach l dC dI c1 c2 c3 A aC aD aE aL 0 hk d kd ht tk lt rest j hj σ x) hK hP hD hS (j + 3) (zg hj) (zC_K hk).1 rfl hl rfl hroom ⟨Nat.le_trans (by decide) hR.1, Nat.le_trans (by decide) hR.2⟩ hd hcs kk
  · exact zcU (x := y_Lamp_reach) (owner := "CoastLamps$Lamp") (As := [.int x]) (rest := st) (ci := 1) E cy_Round_reach cy_Lamp_reach kw_358 kw_337 kw_338 kw_370 hlink (c_Round_reach l dC dI c1 c2 c3 A aC aD aE aL 1 hk d kd ht tk lt rest j hj σ x) hK hP hD hS (j + 3) (zg hj) (zC_K hk).1 rfl hl rfl hroom ⟨Nat.le_trans (by decide) hR.1, Nat.le_trans (by decide) hR.2⟩ hd hcs kk
  · exact zcU (x := y_Lamp_reach) (owner := "CoastLamps$Lamp") (As := [.int x]) (rest := st) (ci := 2) E cy_Twin_reach cy_Lamp_reach kw_355 kw_337 kw_338 kw_372 hlink (c_Twin_reach l dC dI c1 c2 c3 A aC aD aE aL 2 hk d kd ht tk lt rest j hj σ x) hK hP hD hS (j + 3) (zg hj) (zC_K hk).1 rfl hl rfl hroom ⟨Nat.le_trans (by decide) hR.1, Nat.le_trans (by decide) hR.2⟩ hd hcs kk
  · exact zcU (x := y_Lamp_reach) (owner := "CoastLamps$Lamp") (As := [.int x]) (rest := st) (ci := 3) E cy_Drum_reach cy_Lamp_reach kw_351 kw_337 kw_338 kw_350 hlink (c_Drum_reach l dC dI c1 c2 c3 A aC aD aE aL 3 hk d kd ht tk lt rest j hj σ x) hK hP hD hS (j + 3) (zg hj) (zC_K hk).1 rfl hl rfl hroom ⟨Nat.le_trans (by decide) hR.1, Nat.le_trans (by decide) hR.2⟩ hd hcs kk
  · exact zcU (x := y_Lamp_reach) (owner := "CoastLamps$Lamp") (As := [.int x]) (rest := st) (ci := 4) E cy_Drum_reach cy_Lamp_reach kw_351 kw_337 kw_338 kw_371 hlink (c_Drum_reach l dC dI c1 c2 c3 A aC aD aE aL 4 hk d kd ht tk lt rest j hj σ x) hK hP hD hS (j + 3) (zg hj) (zC_K hk).1 rfl hl rfl hroom ⟨Nat.le_trans (by decide) hR.1, Nat.le_trans (by decide) hR.2⟩ hd hcs kk
  · exact zcU (x := y_Lamp_reach) (owner := "CoastLamps$Lamp") (As := [.int x]) (rest := st) (ci := 5) E cy_Gas_reach cy_Lamp_reach kw_346 kw_337 kw_338 kw_367 hlink (c_Gas_reach l dC dI c1 c2 c3 A aC aD aE aL 5 hk d kd ht tk lt rest j hj σ x) hK hP hD hS (j + 3) (zg hj) (zC_K hk).1 rfl hl rfl hroom ⟨Nat.le_trans (by decide) hR.1, Nat.le_trans (by decide) hR.2⟩ hd hcs kk
  · exact zcU (x := y_Lamp_reach) (owner := "CoastLamps$Lamp") (As := [.int x]) (rest := st) (ci := 6) E cy_Gas_reach cy_Lamp_reach kw_346 kw_337 kw_338 kw_366 hlink (c_Gas_reach l dC dI c1 c2 c3 A aC aD aE aL 6 hk d kd ht tk lt rest j hj σ x) hK hP hD hS (j + 3) (zg hj) (zC_K hk).1 rfl hl rfl hroom ⟨Nat.le_trans (by decide) hR.1, Nat.le_trans (by decide) hR.2⟩ hd hcs kk
  · exact zcU (x := y_Lamp_reach) (owner := "CoastLamps$Lamp") (As := [.int x]) (rest := st) (ci := 7) E cy_Buoy_reach cy_Lamp_reach kw_340 kw_337 kw_338 kw_339 hlink (c_Buoy_reach l dC dI c1 c2 c3 A aC aD aE aL 7 hk d kd ht tk lt rest j hj σ x) hK hP hD hS (j + 3) (zg hj) (zC_K hk).1 rfl hl rfl hroom ⟨Nat.le_trans (by decide) hR.1, Nat.le_trans (by decide) hR.2⟩ hd hcs kk
  · exact zcU (x := y_Lamp_reach) (owner := "CoastLamps$Lamp") (As := [.int x]) (rest := st) (ci := 8) E cy_Buoy_reach cy_Lamp_reach kw_340 kw_337 kw_338 kw_369 hlink (c_Buoy_reach l dC dI c1 c2 c3 A aC aD aE aL 8 hk d kd ht tk lt rest j hj σ x) hK hP hD hS (j + 3) (zg hj) (zC_K hk).1 rfl hl rfl hroom ⟨Nat.le_trans (by decide) hR.1, Nat.le_trans (by decide) hR.2⟩ hd hcs kk
set_option maxHeartbeats 1000000 in
set_option maxRecDepth 100000 in
theorem dv_flash (E : zE p s m args meth c own b n r) (hk : k < 9) (hj : j < rest.length) (hlink : Cond.methodLink own idx y_Lamp_flash ∈ tbl) (hK : va_K (dC, dI) classes (t3 c1 c2 c3) s) (hP : va_P (dC, dI) classes (wl c1 c2 aC aD aE aL k d kd ht tk lt rest j σ) H) (hD : va_D A (wl c1 c2 aC aD aE aL k d kd ht tk lt rest j σ)) (hS : va_S A s.heap H locs) (hl : ls.size = n) (hroom : (st.map fun v => v.category).sum ≤ 8) (hR : 7 ≤ R.frames ∧ 160 ≤ R.locals) (hd : decode b pc = .ok (.invokevirtual idx, 3)) (hcs : cells ≤ R.cells ∧ slots ≤ R.slots)
    (kk : ∀ (H1 : Heap) (locs1 : List Loc), va_P (dC, dI) classes (wl c1 c2 aC aD aE aL k d kd ht tk lt rest j (flashK k x σ).2) H1 → va_D A (wl c1 c2 aC aD aE aL k d kd ht tk lt rest j (flashK k x σ).2) → va_S A s.heap H1 locs1 → W p l e R s m args below meth c H1 locs1 cells slots Q (F0 m (pc + 3) ls (.int (flashK k x σ).1 :: st))) : W p l e R s m args below meth c H locs cells slots Q (F0 m pc ls (.int x :: .ref aL :: st)) := by
  rcases (show k = 0 ∨ k = 1 ∨ k = 2 ∨ k = 3 ∨ k = 4 ∨ k = 5 ∨ k = 6 ∨ k = 7 ∨ k = 8 by omega) with rfl | rfl | rfl | rfl | rfl | rfl | rfl | rfl | rfl
  · exact zcU (x := y_Lamp_flash) (owner := "CoastLamps$Lamp") (As := [.int x]) (rest := st) (ci := 0) E cy_Lamp_flash cy_Lamp_flash kw_375 kw_375 kw_376 kw_390 hlink (c_Lamp_flash l dC dI c1 c2 c3 A aC aD aE aL 0 hk d kd ht tk lt rest j hj σ x) hK hP hD hS (j + 3) (zg hj) (zC_K hk).1 rfl hl rfl hroom ⟨Nat.le_trans (by decide) hR.1, Nat.le_trans (by decide) hR.2⟩ hd hcs kk
  · exact zcU (x := y_Lamp_flash) (owner := "CoastLamps$Lamp") (As := [.int x]) (rest := st) (ci := 1) E cy_Lamp_flash cy_Lamp_flash kw_375 kw_375 kw_376 kw_397 hlink (c_Lamp_flash l dC dI c1 c2 c3 A aC aD aE aL 1 hk d kd ht tk lt rest j hj σ x) hK hP hD hS (j + 3) (zg hj) (zC_K hk).1 rfl hl rfl hroom ⟨Nat.le_trans (by decide) hR.1, Nat.le_trans (by decide) hR.2⟩ hd hcs kk
  · exact zcU (x := y_Lamp_flash) (owner := "CoastLamps$Lamp") (As := [.int x]) (rest := st) (ci := 2) E cy_Twin_flash cy_Lamp_flash kw_384 kw_375 kw_376 kw_404 hlink (c_Twin_flash l dC dI c1 c2 c3 A aC aD aE aL 2 hk d kd ht tk lt rest j hj σ x) hK hP hD hS (j + 3) (zg hj) (zC_K hk).1 rfl hl rfl hroom ⟨Nat.le_trans (by decide) hR.1, Nat.le_trans (by decide) hR.2⟩ hd hcs kk
  · exact zcU (x := y_Lamp_flash) (owner := "CoastLamps$Lamp") (As := [.int x]) (rest := st) (ci := 3) E cy_Twin_flash cy_Lamp_flash kw_384 kw_375 kw_376 kw_383 hlink (c_Twin_flash l dC dI c1 c2 c3 A aC aD aE aL 3 hk d kd ht tk lt rest j hj σ x) hK hP hD hS (j + 3) (zg hj) (zC_K hk).1 rfl hl rfl hroom ⟨Nat.le_trans (by decide) hR.1, Nat.le_trans (by decide) hR.2⟩ hd hcs kk
  · exact zcU (x := y_Lamp_flash) (owner := "CoastLamps$Lamp") (As := [.int x]) (rest := st) (ci := 4) E cy_Swing_flash cy_Lamp_flash kw_399 kw_375 kw_376 kw_398 hlink (c_Swing_flash l dC dI c1 c2 c3 A aC aD aE aL 4 hk d kd ht tk lt rest j hj σ x) hK hP hD hS (j + 3) (zg hj) (zC_K hk).1 rfl hl rfl hroom ⟨Nat.le_trans (by decide) hR.1, Nat.le_trans (by decide) hR.2⟩ hd hcs kk
  · exact zcU (x := y_Lamp_flash) (owner := "CoastLamps$Lamp") (As := [.int x]) (rest := st) (ci := 5) E cy_Lamp_flash cy_Lamp_flash kw_375 kw_375 kw_376 kw_389 hlink (c_Lamp_flash l dC dI c1 c2 c3 A aC aD aE aL 5 hk d kd ht tk lt rest j hj σ x) hK hP hD hS (j + 3) (zg hj) (zC_K hk).1 rfl hl rfl hroom ⟨Nat.le_trans (by decide) hR.1, Nat.le_trans (by decide) hR.2⟩ hd hcs kk
  · exact zcU (x := y_Lamp_flash) (owner := "CoastLamps$Lamp") (As := [.int x]) (rest := st) (ci := 6) E cy_Flare_flash cy_Lamp_flash kw_378 kw_375 kw_376 kw_388 hlink (c_Flare_flash l dC dI c1 c2 c3 A aC aD aE aL 6 hk d kd ht tk lt rest j hj σ x) hK hP hD hS (j + 3) (zg hj) (zC_K hk).1 rfl hl rfl hroom ⟨Nat.le_trans (by decide) hR.1, Nat.le_trans (by decide) hR.2⟩ hd hcs kk
  · exact zcU (x := y_Lamp_flash) (owner := "CoastLamps$Lamp") (As := [.int x]) (rest := st) (ci := 7) E cy_Flare_flash cy_Lamp_flash kw_378 kw_375 kw_376 kw_377 hlink (c_Flare_flash l dC dI c1 c2 c3 A aC aD aE aL 7 hk d kd ht tk lt rest j hj σ x) hK hP hD hS (j + 3) (zg hj) (zC_K hk).1 rfl hl rfl hroom ⟨Nat.le_trans (by decide) hR.1, Nat.le_trans (by decide) hR.2⟩ hd hcs kk
  · exact zcU (x := y_Lamp_flash) (owner := "CoastLamps$Lamp") (As := [.int x]) (rest := st) (ci := 8) E cy_Outer_flash cy_Lamp_flash kw_392 kw_375 kw_376 kw_391 hlink (c_Outer_flash l dC dI c1 c2 c3 A aC aD aE aL 8 hk d kd ht tk lt rest j hj σ x) hK hP hD hS (j + 3) (zg hj) (zC_K hk).1 rfl hl rfl hroom ⟨Nat.le_trans (by decide) hR.1, Nat.le_trans (by decide) hR.2⟩ hd hcs kk
set_option maxHeartbeats 1000000 in
set_option maxRecDepth 100000 in
theorem dv_tend (E : zE p s m args meth c own b n r) (hk : k < 9) (hj : j < rest.length) (hlink : Cond.methodLink own idx y_Lamp_tend ∈ tbl) (hK : va_K (dC, dI) classes (t3 c1 c2 c3) s) (hP : va_P (dC, dI) classes (wl c1 c2 aC aD aE aL k d kd ht tk lt rest j σ) H) (hD : va_D A (wl c1 c2 aC aD aE aL k d kd ht tk lt rest j σ)) (hS : va_S A s.heap H locs) (hl : ls.size = n) (hroom : (st.map fun v => v.category).sum ≤ 8) (hR : 7 ≤ R.frames ∧ 160 ≤ R.locals) (hd : decode b pc = .ok (.invokevirtual idx, 3)) (hcs : cells ≤ R.cells ∧ slots ≤ R.slots)
    (kk : ∀ (H1 : Heap) (locs1 : List Loc), va_P (dC, dI) classes (wl c1 c2 aC aD aE aL k d kd ht tk lt rest j (tendK k d x σ).2) H1 → va_D A (wl c1 c2 aC aD aE aL k d kd ht tk lt rest j (tendK k d x σ).2) → va_S A s.heap H1 locs1 → W p l e R s m args below meth c H1 locs1 cells slots Q (F0 m (pc + 3) ls (.int (tendK k d x σ).1 :: st))) : W p l e R s m args below meth c H locs cells slots Q (F0 m pc ls (.int x :: .ref aL :: st)) := by
  rcases (show k = 0 ∨ k = 1 ∨ k = 2 ∨ k = 3 ∨ k = 4 ∨ k = 5 ∨ k = 6 ∨ k = 7 ∨ k = 8 by omega) with rfl | rfl | rfl | rfl | rfl | rfl | rfl | rfl | rfl
  · exact zcU (x := y_Lamp_tend) (owner := "CoastLamps$Lamp") (As := [.int x]) (rest := st) (ci := 0) E cy_Lamp_tend cy_Lamp_tend kw_407 kw_407 kw_408 kw_429 hlink (c_Lamp_tend l dC dI c1 c2 c3 A aC aD aE aL 0 hk d kd ht tk lt rest j hj σ x) hK hP hD hS (j + 3) (zg hj) (zC_K hk).1 rfl hl rfl hroom ⟨Nat.le_trans (by decide) hR.1, Nat.le_trans (by decide) hR.2⟩ hd hcs kk
  · exact zcU (x := y_Lamp_tend) (owner := "CoastLamps$Lamp") (As := [.int x]) (rest := st) (ci := 1) E cy_Round_tend cy_Lamp_tend kw_423 kw_407 kw_408 kw_431 hlink (c_Round_tend l dC dI c1 c2 c3 A aC aD aE aL 1 hk d kd ht tk lt rest j hj σ x) hK hP hD hS (j + 3) (zg hj) (zC_K hk).1 rfl hl rfl hroom ⟨Nat.le_trans (by decide) hR.1, Nat.le_trans (by decide) hR.2⟩ hd hcs kk
  · exact zcU (x := y_Lamp_tend) (owner := "CoastLamps$Lamp") (As := [.int x]) (rest := st) (ci := 2) E cy_Round_tend cy_Lamp_tend kw_423 kw_407 kw_408 kw_433 hlink (c_Round_tend l dC dI c1 c2 c3 A aC aD aE aL 2 hk d kd ht tk lt rest j hj σ x) hK hP hD hS (j + 3) (zg hj) (zC_K hk).1 rfl hl rfl hroom ⟨Nat.le_trans (by decide) hR.1, Nat.le_trans (by decide) hR.2⟩ hd hcs kk
  · exact zcU (x := y_Lamp_tend) (owner := "CoastLamps$Lamp") (As := [.int x]) (rest := st) (ci := 3) E cy_Drum_tend cy_Lamp_tend kw_417 kw_407 kw_408 kw_416 hlink (c_Drum_tend l dC dI c1 c2 c3 A aC aD aE aL 3 hk d kd ht tk lt rest j hj σ x) hK hP hD hS (j + 3) (zg hj) (zC_K hk).1 rfl hl rfl hroom ⟨Nat.le_trans (by decide) hR.1, Nat.le_trans (by decide) hR.2⟩ hd hcs kk
  · exact zcU (x := y_Lamp_tend) (owner := "CoastLamps$Lamp") (As := [.int x]) (rest := st) (ci := 4) E cy_Drum_tend cy_Lamp_tend kw_417 kw_407 kw_408 kw_432 hlink (c_Drum_tend l dC dI c1 c2 c3 A aC aD aE aL 4 hk d kd ht tk lt rest j hj σ x) hK hP hD hS (j + 3) (zg hj) (zC_K hk).1 rfl hl rfl hroom ⟨Nat.le_trans (by decide) hR.1, Nat.le_trans (by decide) hR.2⟩ hd hcs kk
  · exact zcU (x := y_Lamp_tend) (owner := "CoastLamps$Lamp") (As := [.int x]) (rest := st) (ci := 5) E cy_Lamp_tend cy_Lamp_tend kw_407 kw_407 kw_408 kw_428 hlink (c_Lamp_tend l dC dI c1 c2 c3 A aC aD aE aL 5 hk d kd ht tk lt rest j hj σ x) hK hP hD hS (j + 3) (zg hj) (zC_K hk).1 rfl hl rfl hroom ⟨Nat.le_trans (by decide) hR.1, Nat.le_trans (by decide) hR.2⟩ hd hcs kk
  · exact zcU (x := y_Lamp_tend) (owner := "CoastLamps$Lamp") (As := [.int x]) (rest := st) (ci := 6) E cy_Lamp_tend cy_Lamp_tend kw_407 kw_407 kw_408 kw_427 hlink (c_Lamp_tend l dC dI c1 c2 c3 A aC aD aE aL 6 hk d kd ht tk lt rest j hj σ x) hK hP hD hS (j + 3) (zg hj) (zC_K hk).1 rfl hl rfl hroom ⟨Nat.le_trans (by decide) hR.1, Nat.le_trans (by decide) hR.2⟩ hd hcs kk
  · exact zcU (x := y_Lamp_tend) (owner := "CoastLamps$Lamp") (As := [.int x]) (rest := st) (ci := 7) E cy_Buoy_tend cy_Lamp_tend kw_410 kw_407 kw_408 kw_409 hlink (c_Buoy_tend l dC dI c1 c2 c3 A aC aD aE aL 7 hk d kd ht tk lt rest j hj σ x) hK hP hD hS (j + 3) (zg hj) (zC_K hk).1 rfl hl rfl hroom ⟨Nat.le_trans (by decide) hR.1, Nat.le_trans (by decide) hR.2⟩ hd hcs kk
  · exact zcU (x := y_Lamp_tend) (owner := "CoastLamps$Lamp") (As := [.int x]) (rest := st) (ci := 8) E cy_Buoy_tend cy_Lamp_tend kw_410 kw_407 kw_408 kw_430 hlink (c_Buoy_tend l dC dI c1 c2 c3 A aC aD aE aL 8 hk d kd ht tk lt rest j hj σ x) hK hP hD hS (j + 3) (zg hj) (zC_K hk).1 rfl hl rfl hroom ⟨Nat.le_trans (by decide) hR.1, Nat.le_trans (by decide) hR.2⟩ hd hcs kk
set_option maxHeartbeats 1000000 in
set_option maxRecDepth 100000 in
theorem dv_rank (E : zE p s m args meth c own b n r) (hk : k < 9) (hj : j < rest.length) (hlink : Cond.methodLink own idx y_Lamp_rank ∈ tbl) (hK : va_K (dC, dI) classes (t3 c1 c2 c3) s) (hP : va_P (dC, dI) classes (wl c1 c2 aC aD aE aL k d kd ht tk lt rest j σ) H) (hD : va_D A (wl c1 c2 aC aD aE aL k d kd ht tk lt rest j σ)) (hS : va_S A s.heap H locs) (hl : ls.size = n) (hroom : (st.map fun v => v.category).sum ≤ 8) (hR : 7 ≤ R.frames ∧ 160 ≤ R.locals) (hd : decode b pc = .ok (.invokevirtual idx, 3)) (hcs : cells ≤ R.cells ∧ slots ≤ R.slots)
    (kk : ∀ (H1 : Heap) (locs1 : List Loc), va_P (dC, dI) classes (wl c1 c2 aC aD aE aL k d kd ht tk lt rest j (rankK k ht tk σ).2) H1 → va_D A (wl c1 c2 aC aD aE aL k d kd ht tk lt rest j (rankK k ht tk σ).2) → va_S A s.heap H1 locs1 → W p l e R s m args below meth c H1 locs1 cells slots Q (F0 m (pc + 3) ls (.int (rankK k ht tk σ).1 :: st))) : W p l e R s m args below meth c H locs cells slots Q (F0 m pc ls (.ref aL :: st)) := by
  rcases (show k = 0 ∨ k = 1 ∨ k = 2 ∨ k = 3 ∨ k = 4 ∨ k = 5 ∨ k = 6 ∨ k = 7 ∨ k = 8 by omega) with rfl | rfl | rfl | rfl | rfl | rfl | rfl | rfl | rfl
  · exact zcU (x := y_Lamp_rank) (owner := "CoastLamps$Lamp") (As := []) (rest := st) (ci := 0) E cy_Oil_rank cy_Lamp_rank kw_451 kw_437 kw_438 kw_456 hlink (c_Oil_rank l dC dI c1 c2 c3 A aC aD aE aL 0 hk d kd ht tk lt rest j hj σ) hK hP hD hS (j + 3) (zg hj) (zC_K hk).1 rfl hl rfl hroom ⟨Nat.le_trans (by decide) hR.1, Nat.le_trans (by decide) hR.2⟩ hd hcs kk
  · exact zcU (x := y_Lamp_rank) (owner := "CoastLamps$Lamp") (As := []) (rest := st) (ci := 1) E cy_Oil_rank cy_Lamp_rank kw_451 kw_437 kw_438 kw_463 hlink (c_Oil_rank l dC dI c1 c2 c3 A aC aD aE aL 1 hk d kd ht tk lt rest j hj σ) hK hP hD hS (j + 3) (zg hj) (zC_K hk).1 rfl hl rfl hroom ⟨Nat.le_trans (by decide) hR.1, Nat.le_trans (by decide) hR.2⟩ hd hcs kk
  · exact zcU (x := y_Lamp_rank) (owner := "CoastLamps$Lamp") (As := []) (rest := st) (ci := 2) E cy_Oil_rank cy_Lamp_rank kw_451 kw_437 kw_438 kw_465 hlink (c_Oil_rank l dC dI c1 c2 c3 A aC aD aE aL 2 hk d kd ht tk lt rest j hj σ) hK hP hD hS (j + 3) (zg hj) (zC_K hk).1 rfl hl rfl hroom ⟨Nat.le_trans (by decide) hR.1, Nat.le_trans (by decide) hR.2⟩ hd hcs kk
  · exact zcU (x := y_Lamp_rank) (owner := "CoastLamps$Lamp") (As := []) (rest := st) (ci := 3) E cy_Drum_rank cy_Lamp_rank kw_446 kw_437 kw_438 kw_445 hlink (c_Drum_rank l dC dI c1 c2 c3 A aC aD aE aL 3 hk d kd ht tk lt rest j hj σ) hK hP hD hS (j + 3) (zg hj) (zC_K hk).1 rfl hl rfl hroom ⟨Nat.le_trans (by decide) hR.1, Nat.le_trans (by decide) hR.2⟩ hd hcs kk
  · exact zcU (x := y_Lamp_rank) (owner := "CoastLamps$Lamp") (As := []) (rest := st) (ci := 4) E cy_Drum_rank cy_Lamp_rank kw_446 kw_437 kw_438 kw_464 hlink (c_Drum_rank l dC dI c1 c2 c3 A aC aD aE aL 4 hk d kd ht tk lt rest j hj σ) hK hP hD hS (j + 3) (zg hj) (zC_K hk).1 rfl hl rfl hroom ⟨Nat.le_trans (by decide) hR.1, Nat.le_trans (by decide) hR.2⟩ hd hcs kk
  · exact zcU (x := y_Lamp_rank) (owner := "CoastLamps$Lamp") (As := []) (rest := st) (ci := 5) E cy_Lamp_rank cy_Lamp_rank kw_437 kw_437 kw_438 kw_455 hlink (c_Lamp_rank l dC dI c1 c2 c3 A aC aD aE aL 5 hk d kd ht tk lt rest j hj σ) hK hP hD hS (j + 3) (zg hj) (zC_K hk).1 rfl hl rfl hroom ⟨Nat.le_trans (by decide) hR.1, Nat.le_trans (by decide) hR.2⟩ hd hcs kk
  · exact zcU (x := y_Lamp_rank) (owner := "CoastLamps$Lamp") (As := []) (rest := st) (ci := 6) E cy_Flare_rank cy_Lamp_rank kw_440 kw_437 kw_438 kw_454 hlink (c_Flare_rank l dC dI c1 c2 c3 A aC aD aE aL 6 hk d kd ht tk lt rest j hj σ) hK hP hD hS (j + 3) (zg hj) (zC_K hk).1 rfl hl rfl hroom ⟨Nat.le_trans (by decide) hR.1, Nat.le_trans (by decide) hR.2⟩ hd hcs kk
  · exact zcU (x := y_Lamp_rank) (owner := "CoastLamps$Lamp") (As := []) (rest := st) (ci := 7) E cy_Flare_rank cy_Lamp_rank kw_440 kw_437 kw_438 kw_439 hlink (c_Flare_rank l dC dI c1 c2 c3 A aC aD aE aL 7 hk d kd ht tk lt rest j hj σ) hK hP hD hS (j + 3) (zg hj) (zC_K hk).1 rfl hl rfl hroom ⟨Nat.le_trans (by decide) hR.1, Nat.le_trans (by decide) hR.2⟩ hd hcs kk
  · exact zcU (x := y_Lamp_rank) (owner := "CoastLamps$Lamp") (As := []) (rest := st) (ci := 8) E cy_Outer_rank cy_Lamp_rank kw_458 kw_437 kw_438 kw_457 hlink (c_Outer_rank l dC dI c1 c2 c3 A aC aD aE aL 8 hk d kd ht tk lt rest j hj σ) hK hP hD hS (j + 3) (zg hj) (zC_K hk).1 rfl hl rfl hroom ⟨Nat.le_trans (by decide) hR.1, Nat.le_trans (by decide) hR.2⟩ hd hcs kk
set_option maxHeartbeats 1000000 in
set_option maxRecDepth 100000 in
theorem dv_tone (E : zE p s m args meth c own b n r) (hk : k < 9) (hh : hornedK k = true) (hj : j < rest.length) (hlink : Cond.methodLink own idx y_Lamp_tone ∈ tbl) (hK : va_K (dC, dI) classes (t3 c1 c2 c3) s) (hP : va_P (dC, dI) classes (wl c1 c2 aC aD aE aL k d kd ht tk lt rest j σ) H) (hD : va_D A (wl c1 c2 aC aD aE aL k d kd ht tk lt rest j σ)) (hS : va_S A s.heap H locs) (hl : ls.size = n) (hroom : (st.map fun v => v.category).sum ≤ 8) (hR : 7 ≤ R.frames ∧ 160 ≤ R.locals) (hd : decode b pc = .ok (.invokevirtual idx, 3)) (hcs : cells ≤ R.cells ∧ slots ≤ R.slots)
    (kk : ∀ (H1 : Heap) (locs1 : List Loc), va_P (dC, dI) classes (wl c1 c2 aC aD aE aL k d kd ht tk lt rest j (toneK k d ht tk σ).2) H1 → va_D A (wl c1 c2 aC aD aE aL k d kd ht tk lt rest j (toneK k d ht tk σ).2) → va_S A s.heap H1 locs1 → W p l e R s m args below meth c H1 locs1 cells slots Q (F0 m (pc + 3) ls (.int (toneK k d ht tk σ).1 :: st))) : W p l e R s m args below meth c H locs cells slots Q (F0 m pc ls (.ref aL :: st)) := by
  rcases (show k = 0 ∨ k = 1 ∨ k = 2 ∨ k = 3 ∨ k = 4 ∨ k = 5 ∨ k = 6 ∨ k = 7 ∨ k = 8 by omega) with rfl | rfl | rfl | rfl | rfl | rfl | rfl | rfl | rfl
  · exact absurd hh (by decide)
  · exact absurd hh (by decide)
  · exact zcU (x := y_Lamp_tone) (owner := "CoastLamps$Lamp") (As := []) (rest := st) (ci := 2) E cy_Oil_tone cy_Lamp_tone kw_489 kw_494 kw_495 kw_512 hlink (c_Oil_tone l dC dI c1 c2 c3 A aC aD aE aL 2 hk d kd ht tk lt rest j hj σ) hK hP hD hS (j + 3) (zg hj) (zC_K hk).1 rfl hl rfl hroom ⟨Nat.le_trans (by decide) hR.1, Nat.le_trans (by decide) hR.2⟩ hd hcs kk
  · exact zcU (x := y_Lamp_tone) (owner := "CoastLamps$Lamp") (As := []) (rest := st) (ci := 3) E cy_Drum_tone cy_Lamp_tone kw_484 kw_494 kw_495 kw_499 hlink (c_Drum_tone l dC dI c1 c2 c3 A aC aD aE aL 3 hk d kd ht tk lt rest j hj σ) hK hP hD hS (j + 3) (zg hj) (zC_K hk).1 rfl hl rfl hroom ⟨Nat.le_trans (by decide) hR.1, Nat.le_trans (by decide) hR.2⟩ hd hcs kk
  · exact zcU (x := y_Lamp_tone) (owner := "CoastLamps$Lamp") (As := []) (rest := st) (ci := 4) E cy_Drum_tone cy_Lamp_tone kw_484 kw_494 kw_495 kw_511 hlink (c_Drum_tone l dC dI c1 c2 c3 A aC aD aE aL 4 hk d kd ht tk lt rest j hj σ) hK hP hD hS (j + 3) (zg hj) (zC_K hk).1 rfl hl rfl hroom ⟨Nat.le_trans (by decide) hR.1, Nat.le_trans (by decide) hR.2⟩ hd hcs kk
  · exact absurd hh (by decide)
  · exact zcU (x := y_Lamp_tone) (owner := "CoastLamps$Lamp") (As := []) (rest := st) (ci := 6) E cy_Flare_tone cy_Lamp_tone kw_497 kw_494 kw_495 kw_500 hlink (c_Flare_tone l dC dI c1 c2 c3 A aC aD aE aL 6 hk d kd ht tk lt rest j hj σ) hK hP hD hS (j + 3) (zg hj) (zC_K hk).1 rfl hl rfl hroom ⟨Nat.le_trans (by decide) hR.1, Nat.le_trans (by decide) hR.2⟩ hd hcs kk
  · exact zcU (x := y_Lamp_tone) (owner := "CoastLamps$Lamp") (As := []) (rest := st) (ci := 7) E cy_Flare_tone cy_Lamp_tone kw_497 kw_494 kw_495 kw_496 hlink (c_Flare_tone l dC dI c1 c2 c3 A aC aD aE aL 7 hk d kd ht tk lt rest j hj σ) hK hP hD hS (j + 3) (zg hj) (zC_K hk).1 rfl hl rfl hroom ⟨Nat.le_trans (by decide) hR.1, Nat.le_trans (by decide) hR.2⟩ hd hcs kk
  · exact zcU (x := y_Lamp_tone) (owner := "CoastLamps$Lamp") (As := []) (rest := st) (ci := 8) E cy_Outer_tone cy_Lamp_tone kw_504 kw_494 kw_495 kw_503 hlink (c_Outer_tone l dC dI c1 c2 c3 A aC aD aE aL d kd ht tk lt rest j hj σ) hK hP hD hS (j + 3) (zg hj) (zC_K hk).1 rfl hl rfl hroom ⟨Nat.le_trans (by decide) hR.1, Nat.le_trans (by decide) hR.2⟩ hd hcs kk
set_option maxHeartbeats 1000000 in
set_option maxRecDepth 100000 in
theorem dv_horn (E : zE p s m args meth c own b n r) (hk : k < 9) (hh : hornedK k = true) (hj : j < rest.length) (hlink : Cond.methodLink own idx y_Lamp_horn ∈ tbl) (hK : va_K (dC, dI) classes (t3 c1 c2 c3) s) (hP : va_P (dC, dI) classes (wl c1 c2 aC aD aE aL k d kd ht tk lt rest j σ) H) (hD : va_D A (wl c1 c2 aC aD aE aL k d kd ht tk lt rest j σ)) (hS : va_S A s.heap H locs) (hl : ls.size = n) (hroom : (st.map fun v => v.category).sum ≤ 8) (hR : 7 ≤ R.frames ∧ 160 ≤ R.locals) (hd : decode b pc = .ok (.invokevirtual idx, 3)) (hcs : cells ≤ R.cells ∧ slots ≤ R.slots)
    (kk : ∀ (H1 : Heap) (locs1 : List Loc), va_P (dC, dI) classes (wl c1 c2 aC aD aE aL k d kd ht tk lt rest j (hornK k d ht tk x σ).2) H1 → va_D A (wl c1 c2 aC aD aE aL k d kd ht tk lt rest j (hornK k d ht tk x σ).2) → va_S A s.heap H1 locs1 → W p l e R s m args below meth c H1 locs1 cells slots Q (F0 m (pc + 3) ls (.int (hornK k d ht tk x σ).1 :: st))) : W p l e R s m args below meth c H locs cells slots Q (F0 m pc ls (.int x :: .ref aL :: st)) := by
  rcases (show k = 0 ∨ k = 1 ∨ k = 2 ∨ k = 3 ∨ k = 4 ∨ k = 5 ∨ k = 6 ∨ k = 7 ∨ k = 8 by omega) with rfl | rfl | rfl | rfl | rfl | rfl | rfl | rfl | rfl
  · exact absurd hh (by decide)
  · exact absurd hh (by decide)
  · exact zcU (x := y_Lamp_horn) (owner := "CoastLamps$Lamp") (As := [.int x]) (rest := st) (ci := 2) E cy_Lamp_horn cy_Lamp_horn kw_468 kw_468 kw_469 kw_491 hlink (c_horn_2 l dC dI c1 c2 c3 A aC aD aE aL d kd ht tk lt rest j hj σ x) hK hP hD hS (j + 3) (zg hj) (zC_K hk).1 rfl hl rfl hroom ⟨Nat.le_trans (by decide) hR.1, Nat.le_trans (by decide) hR.2⟩ hd hcs kk
  · exact zcU (x := y_Lamp_horn) (owner := "CoastLamps$Lamp") (As := [.int x]) (rest := st) (ci := 3) E cy_Lamp_horn cy_Lamp_horn kw_468 kw_468 kw_469 kw_471 hlink (c_horn_3 l dC dI c1 c2 c3 A aC aD aE aL d kd ht tk lt rest j hj σ x) hK hP hD hS (j + 3) (zg hj) (zC_K hk).1 rfl hl rfl hroom ⟨Nat.le_trans (by decide) hR.1, Nat.le_trans (by decide) hR.2⟩ hd hcs kk
  · exact zcU (x := y_Lamp_horn) (owner := "CoastLamps$Lamp") (As := [.int x]) (rest := st) (ci := 4) E cy_Swing_horn cy_Lamp_horn kw_478 kw_468 kw_469 kw_477 hlink (c_horn_4 l dC dI c1 c2 c3 A aC aD aE aL d kd ht tk lt rest j hj σ x) hK hP hD hS (j + 3) (zg hj) (zC_K hk).1 rfl hl rfl hroom ⟨Nat.le_trans (by decide) hR.1, Nat.le_trans (by decide) hR.2⟩ hd hcs kk
  · exact absurd hh (by decide)
  · exact zcU (x := y_Lamp_horn) (owner := "CoastLamps$Lamp") (As := [.int x]) (rest := st) (ci := 6) E cy_Lamp_horn cy_Lamp_horn kw_468 kw_468 kw_469 kw_472 hlink (c_horn_6 l dC dI c1 c2 c3 A aC aD aE aL d kd ht tk lt rest j hj σ x) hK hP hD hS (j + 3) (zg hj) (zC_K hk).1 rfl hl rfl hroom ⟨Nat.le_trans (by decide) hR.1, Nat.le_trans (by decide) hR.2⟩ hd hcs kk
  · exact zcU (x := y_Lamp_horn) (owner := "CoastLamps$Lamp") (As := [.int x]) (rest := st) (ci := 7) E cy_Lamp_horn cy_Lamp_horn kw_468 kw_468 kw_469 kw_470 hlink (c_horn_7 l dC dI c1 c2 c3 A aC aD aE aL d kd ht tk lt rest j hj σ x) hK hP hD hS (j + 3) (zg hj) (zC_K hk).1 rfl hl rfl hroom ⟨Nat.le_trans (by decide) hR.1, Nat.le_trans (by decide) hR.2⟩ hd hcs kk
  · exact zcU (x := y_Lamp_horn) (owner := "CoastLamps$Lamp") (As := [.int x]) (rest := st) (ci := 8) E cy_Lamp_horn cy_Lamp_horn kw_468 kw_468 kw_469 kw_475 hlink (c_horn_8 l dC dI c1 c2 c3 A aC aD aE aL d kd ht tk lt rest j hj σ x) hK hP hD hS (j + 3) (zg hj) (zC_K hk).1 rfl hl rfl hroom ⟨Nat.le_trans (by decide) hR.1, Nat.le_trans (by decide) hR.2⟩ hd hcs kk
set_option maxHeartbeats 1000000 in
set_option maxRecDepth 100000 in
theorem dv_drain (E : zE p s m args meth c own b n r) (hk : k < 9) (hj : j < rest.length) (hlink : Cond.methodLink own idx y_Lamp_drain ∈ tbl) (hK : va_K (dC, dI) classes (t3 c1 c2 c3) s) (hP : va_P (dC, dI) classes (wl c1 c2 aC aD aE aL k d kd ht tk lt rest j σ) H) (hD : va_D A (wl c1 c2 aC aD aE aL k d kd ht tk lt rest j σ)) (hS : va_S A s.heap H locs) (hl : ls.size = n) (hroom : (st.map fun v => v.category).sum ≤ 8) (hR : 7 ≤ R.frames ∧ 160 ≤ R.locals) (hd : decode b pc = .ok (.invokevirtual idx, 3)) (hcs : cells ≤ R.cells ∧ slots ≤ R.slots)
    (kk : ∀ (H1 : Heap) (locs1 : List Loc), va_P (dC, dI) classes (wl c1 c2 aC aD aE aL k d kd ht (if tk ≤ x then 0 else tk - x) (if tk ≤ x then 0 else lt) rest j σ) H1 → va_D A (wl c1 c2 aC aD aE aL k d kd ht (if tk ≤ x then 0 else tk - x) (if tk ≤ x then 0 else lt) rest j σ) → va_S A s.heap H1 locs1 → W p l e R s m args below meth c H1 locs1 cells slots Q (F0 m (pc + 3) ls (st))) : W p l e R s m args below meth c H locs cells slots Q (F0 m pc ls (.int x :: .ref aL :: st)) := by
  rcases (show k = 0 ∨ k = 1 ∨ k = 2 ∨ k = 3 ∨ k = 4 ∨ k = 5 ∨ k = 6 ∨ k = 7 ∨ k = 8 by omega) with rfl | rfl | rfl | rfl | rfl | rfl | rfl | rfl | rfl
  · exact zcU (x := y_Lamp_drain) (owner := "CoastLamps$Lamp") (As := [.int x]) (rest := st) (ci := 0) E cy_Lamp_drain cy_Lamp_drain kw_548 kw_548 kw_549 kw_554 hlink (c_Lamp_drain l dC dI c1 c2 c3 A aC aD aE aL 0 hk d kd ht tk lt rest j hj σ x) hK hP hD hS (j + 3) (zg hj) (zC_K hk).1 rfl hl rfl hroom ⟨Nat.le_trans (by decide) hR.1, Nat.le_trans (by decide) hR.2⟩ hd hcs kk
  · exact zcU (x := y_Lamp_drain) (owner := "CoastLamps$Lamp") (As := [.int x]) (rest := st) (ci := 1) E cy_Lamp_drain cy_Lamp_drain kw_548 kw_548 kw_549 kw_556 hlink (c_Lamp_drain l dC dI c1 c2 c3 A aC aD aE aL 1 hk d kd ht tk lt rest j hj σ x) hK hP hD hS (j + 3) (zg hj) (zC_K hk).1 rfl hl rfl hroom ⟨Nat.le_trans (by decide) hR.1, Nat.le_trans (by decide) hR.2⟩ hd hcs kk
  · exact zcU (x := y_Lamp_drain) (owner := "CoastLamps$Lamp") (As := [.int x]) (rest := st) (ci := 2) E cy_Lamp_drain cy_Lamp_drain kw_548 kw_548 kw_549 kw_558 hlink (c_Lamp_drain l dC dI c1 c2 c3 A aC aD aE aL 2 hk d kd ht tk lt rest j hj σ x) hK hP hD hS (j + 3) (zg hj) (zC_K hk).1 rfl hl rfl hroom ⟨Nat.le_trans (by decide) hR.1, Nat.le_trans (by decide) hR.2⟩ hd hcs kk
  · exact zcU (x := y_Lamp_drain) (owner := "CoastLamps$Lamp") (As := [.int x]) (rest := st) (ci := 3) E cy_Lamp_drain cy_Lamp_drain kw_548 kw_548 kw_549 kw_551 hlink (c_Lamp_drain l dC dI c1 c2 c3 A aC aD aE aL 3 hk d kd ht tk lt rest j hj σ x) hK hP hD hS (j + 3) (zg hj) (zC_K hk).1 rfl hl rfl hroom ⟨Nat.le_trans (by decide) hR.1, Nat.le_trans (by decide) hR.2⟩ hd hcs kk
  · exact zcU (x := y_Lamp_drain) (owner := "CoastLamps$Lamp") (As := [.int x]) (rest := st) (ci := 4) E cy_Lamp_drain cy_Lamp_drain kw_548 kw_548 kw_549 kw_557 hlink (c_Lamp_drain l dC dI c1 c2 c3 A aC aD aE aL 4 hk d kd ht tk lt rest j hj σ x) hK hP hD hS (j + 3) (zg hj) (zC_K hk).1 rfl hl rfl hroom ⟨Nat.le_trans (by decide) hR.1, Nat.le_trans (by decide) hR.2⟩ hd hcs kk
  · exact zcU (x := y_Lamp_drain) (owner := "CoastLamps$Lamp") (As := [.int x]) (rest := st) (ci := 5) E cy_Lamp_drain cy_Lamp_drain kw_548 kw_548 kw_549 kw_553 hlink (c_Lamp_drain l dC dI c1 c2 c3 A aC aD aE aL 5 hk d kd ht tk lt rest j hj σ x) hK hP hD hS (j + 3) (zg hj) (zC_K hk).1 rfl hl rfl hroom ⟨Nat.le_trans (by decide) hR.1, Nat.le_trans (by decide) hR.2⟩ hd hcs kk
  · exact zcU (x := y_Lamp_drain) (owner := "CoastLamps$Lamp") (As := [.int x]) (rest := st) (ci := 6) E cy_Lamp_drain cy_Lamp_drain kw_548 kw_548 kw_549 kw_552 hlink (c_Lamp_drain l dC dI c1 c2 c3 A aC aD aE aL 6 hk d kd ht tk lt rest j hj σ x) hK hP hD hS (j + 3) (zg hj) (zC_K hk).1 rfl hl rfl hroom ⟨Nat.le_trans (by decide) hR.1, Nat.le_trans (by decide) hR.2⟩ hd hcs kk
  · exact zcU (x := y_Lamp_drain) (owner := "CoastLamps$Lamp") (As := [.int x]) (rest := st) (ci := 7) E cy_Lamp_drain cy_Lamp_drain kw_548 kw_548 kw_549 kw_550 hlink (c_Lamp_drain l dC dI c1 c2 c3 A aC aD aE aL 7 hk d kd ht tk lt rest j hj σ x) hK hP hD hS (j + 3) (zg hj) (zC_K hk).1 rfl hl rfl hroom ⟨Nat.le_trans (by decide) hR.1, Nat.le_trans (by decide) hR.2⟩ hd hcs kk
  · exact zcU (x := y_Lamp_drain) (owner := "CoastLamps$Lamp") (As := [.int x]) (rest := st) (ci := 8) E cy_Lamp_drain cy_Lamp_drain kw_548 kw_548 kw_549 kw_555 hlink (c_Lamp_drain l dC dI c1 c2 c3 A aC aD aE aL 8 hk d kd ht tk lt rest j hj σ x) hK hP hD hS (j + 3) (zg hj) (zC_K hk).1 rfl hl rfl hroom ⟨Nat.le_trans (by decide) hR.1, Nat.le_trans (by decide) hR.2⟩ hd hcs kk
end DV
end
section
/-! the reference's cells -/
abbrev wm (g1 g2 g3 g4 g5 g6 g7 : ClassId) (aM m1 m2 m3 m4 m5 m6 m7 : Nat) (d : Nat → Int32) (n : Nat) (kd ht tk so lt : Nat → Int32) (sto : Int64) (ni ac bl : Int32) (t : zT) : va_W :=
  [(aM, .inr (11, [.ref m1, .int (nI n), .ref m2, .ref m3, .ref m4, .ref m5, .ref m6, .long sto, .int ni, .int ac, .int bl, .ref m7, .int (nI t.2.1)])), (m1, .inl (g1, 8, .inl d)), (m2, .inl (g2, 60, .inl kd)), (m3, .inl (g3, 60, .inl ht)), (m4, .inl (g4, 60, .inl tk)), (m5, .inl (g5, 60, .inl so)), (m6, .inl (g6, 60, .inl lt)), (m7, .inl (g7, 1000, .inl t.1))]
abbrev t7 (g1 g2 g3 g4 g5 g6 g7 : ClassId) : List (ClassId × FieldType) := [(g1, .int), (g2, .int), (g3, .int), (g4, .int), (g5, .int), (g6, .boolean), (g7, .int)]
theorem upd_upd (f : Nat → Int32) (i : Nat) (x y : Int32) : upd (upd f i x) i y = upd f i y := by
  funext j; unfold upd; by_cases h : j = i <;> simp [h]
theorem upd_me (f : Nat → Int32) (i : Nat) : upd f i (f i) = f := by
  funext j; unfold upd; by_cases h : j = i <;> simp [h]
theorem i31 {i : Nat} (h : i < 60) : i < 2 ^ 31 := Nat.lt_trans h (by decide)
end
section
set_option maxHeartbeats 1000000 in
set_option maxRecDepth 100000 in
theorem c_M_in (l : Launch) (dC : Nat → ClassId) (dI : Nat → Nat → Nat) (tys : List (ClassId × FieldType)) (A : Nat → Prop) (w : va_W) (x y z : Int32) : zM l y_M_in b_M_in 3 (some FieldType.boolean) 0 0 [.int x, .int y, .int z] (dC, dI) tys A w w (some (.int (zb (decide (y ≤ x ∧ x ≤ z))))) := by
  by_cases h1 : y ≤ x
  · by_cases h2 : x ≤ z
    · rw [show zb (decide (y ≤ x ∧ x ≤ z)) = 1 from by rw [decide_eq_true (⟨h1, h2⟩)]; rfl]
      refine zM_of "CoastLampsModel" rfl (by decide) (Nat.le_of_ble_eq_true rfl) ?_
      intro p e s m below meth c ls E hP hK hD hS hl
      obtain ⟨hx, hb, hml, ho, hts, hr, hlk⟩ := id E
      have hl : lv_has ls 3 [(0, .int x), (1, .int y), (2, .int z)] := hl
      refine lv_iload_n hx hb d_M_in_0 rfl (lv_at hl 0 rfl) ?_
      refine lv_iload_n hx hb d_M_in_1 rfl (lv_at hl 1 rfl) ?_
      refine lv_icmp_lt (tgt := 14) hx hb d_M_in_2 (by decide) (fun h9 => absurd h9 (Int32.not_lt.mpr h1)) (fun _ => ?_)
      refine lv_iload_n hx hb d_M_in_5 rfl (lv_at hl 0 rfl) ?_
      refine lv_iload_n hx hb d_M_in_6 rfl (lv_at hl 2 rfl) ?_
      refine lv_icmp_gt (tgt := 14) hx hb d_M_in_7 (by decide) (fun h9 => absurd h9 (Int32.not_lt.mpr h2)) (fun _ => ?_)
      refine lv_iconst (v := 1) hx hb d_M_in_10 (by decide) ?_
      refine lv_goto (tgt := 15) hx hb d_M_in_11 (by decide) ?_
      exact zrz E hK hP hD hS rfl d_M_in_15
    · rw [show zb (decide (y ≤ x ∧ x ≤ z)) = 0 from by rw [decide_eq_false (fun h => h2 h.2)]; rfl]
      refine zM_of "CoastLampsModel" rfl (by decide) (Nat.le_of_ble_eq_true rfl) ?_
      intro p e s m below meth c ls E hP hK hD hS hl
      obtain ⟨hx, hb, hml, ho, hts, hr, hlk⟩ := id E
      have hl : lv_has ls 3 [(0, .int x), (1, .int y), (2, .int z)] := hl
      refine lv_iload_n hx hb d_M_in_0 rfl (lv_at hl 0 rfl) ?_
      refine lv_iload_n hx hb d_M_in_1 rfl (lv_at hl 1 rfl) ?_
      refine lv_icmp_lt (tgt := 14) hx hb d_M_in_2 (by decide) (fun h9 => absurd h9 (Int32.not_lt.mpr h1)) (fun _ => ?_)
      refine lv_iload_n hx hb d_M_in_5 rfl (lv_at hl 0 rfl) ?_
      refine lv_iload_n hx hb d_M_in_6 rfl (lv_at hl 2 rfl) ?_
      refine lv_icmp_gt (tgt := 14) hx hb d_M_in_7 (by decide) (fun _ => ?_) (fun h9 => absurd (Int32.not_le.mp h2) h9)
      refine lv_iconst (v := 0) hx hb d_M_in_14 (by decide) ?_
      exact zrz E hK hP hD hS rfl d_M_in_15
  · rw [show zb (decide (y ≤ x ∧ x ≤ z)) = 0 from by rw [decide_eq_false (fun h => h1 h.1)]; rfl]
    refine zM_of "CoastLampsModel" rfl (by decide) (Nat.le_of_ble_eq_true rfl) ?_
    intro p e s m below meth c ls E hP hK hD hS hl
    obtain ⟨hx, hb, hml, ho, hts, hr, hlk⟩ := id E
    have hl : lv_has ls 3 [(0, .int x), (1, .int y), (2, .int z)] := hl
    refine lv_iload_n hx hb d_M_in_0 rfl (lv_at hl 0 rfl) ?_
    refine lv_iload_n hx hb d_M_in_1 rfl (lv_at hl 1 rfl) ?_
    refine lv_icmp_lt (tgt := 14) hx hb d_M_in_2 (by decide) (fun _ => ?_) (fun h9 => absurd (Int32.not_le.mp h1) h9)
    refine lv_iconst (v := 0) hx hb d_M_in_14 (by decide) ?_
    exact zrz E hK hP hD hS rfl d_M_in_15
set_option maxHeartbeats 1000000 in
set_option maxRecDepth 100000 in
theorem c_M_begins (l : Launch) (dC : Nat → ClassId) (dI : Nat → Nat → Nat) (g1 g2 g3 g4 g5 g6 g7 : ClassId) (A : Nat → Prop) (aM m1 m2 m3 m4 m5 m6 m7 : Nat) (d : Nat → Int32) (n : Nat) (kd ht tk so lt : Nat → Int32) (sto : Int64) (ni ac bl : Int32) (t : zT) (x : Int32) : zM l y_M_begins b_M_begins 2 none 0 0 [.ref aM, .int x] (dC, dI) (t7 g1 g2 g3 g4 g5 g6 g7) A (wm g1 g2 g3 g4 g5 g6 g7 aM m1 m2 m3 m4 m5 m6 m7 d n kd ht tk so lt sto ni ac bl t) (wm g1 g2 g3 g4 g5 g6 g7 aM m1 m2 m3 m4 m5 m6 m7 d n kd ht tk so lt sto ni ac bl (tb x t)) none := by
  by_cases h1 : t.2.1 < 1000
  · have e9 : tb x t = (upd t.1 t.2.1 x, ⟨t.2.1 + 1, h1⟩) := by unfold tb; rw [dif_pos h1]
    rw [e9]
    refine zM_of "CoastLampsModel" rfl (by decide) (Nat.le_of_ble_eq_true rfl) ?_
    intro p e s m below meth c ls E hP hK hD hS hl
    obtain ⟨hx, hb, hml, ho, hts, hr, hlk⟩ := id E
    have hl : lv_has ls 2 [(0, .ref aM), (1, .int x)] := hl
    refine lv_aload_n hx hb d_M_begins_0 rfl (lv_at hl 0 rfl) ?_
    refine zget (ci := 11) (fs := [.ref m1, .int (nI n), .ref m2, .ref m3, .ref m4, .ref m5, .ref m6, .long sto, .int ni, .int ac, .int bl, .ref m7, .int (nI t.2.1)]) E hK hP 0 rfl zC_M 12 (by decide) kw_602 (Or.inl rfl) rfl d_M_begins_1 ?_
    refine lv_sipush (v := 1000) hx hb d_M_begins_4 (by decide) ?_
    rw [show (1000 : Int32) = nI 1000 from by decide]
    refine lv_icmp_ge (tgt := 30) hx hb d_M_begins_7 (by decide) (fun h9 => absurd h9 (nI_ge h1 (by decide))) (fun _ => ?_)
    refine lv_aload_n hx hb d_M_begins_10 rfl (lv_at hl 0 rfl) ?_
    refine zget (ci := 11) (fs := [.ref m1, .int (nI n), .ref m2, .ref m3, .ref m4, .ref m5, .ref m6, .long sto, .int ni, .int ac, .int bl, .ref m7, .int (nI t.2.1)]) E hK hP 0 rfl zC_M 11 (by decide) kw_601 (Or.inl rfl) rfl d_M_begins_11 ?_
    refine lv_aload_n hx hb d_M_begins_14 rfl (lv_at hl 0 rfl) ?_
    refine zget (ci := 11) (fs := [.ref m1, .int (nI n), .ref m2, .ref m3, .ref m4, .ref m5, .ref m6, .long sto, .int ni, .int ac, .int bl, .ref m7, .int (nI t.2.1)]) E hK hP 0 rfl zC_M 12 (by decide) kw_602 (Or.inl rfl) rfl d_M_begins_15 ?_
    refine lv_iload_n hx hb d_M_begins_18 rfl (lv_at hl 1 rfl) ?_
    refine va_iast hx hb hK hP hD hS 7 6 rfl rfl (vp_in_nI h1 (by decide)) d_M_begins_19 (fun H locs hP hD hS => ?_)
    rw [nI_clamp (nI_w t)] at hP hD
    have hP : va_P (dC, dI) classes ([(aM, .inr (11, [.ref m1, .int (nI n), .ref m2, .ref m3, .ref m4, .ref m5, .ref m6, .long sto, .int ni, .int ac, .int bl, .ref m7, .int (nI t.2.1)])), (m1, .inl (g1, 8, .inl d)), (m2, .inl (g2, 60, .inl kd)), (m3, .inl (g3, 60, .inl ht)), (m4, .inl (g4, 60, .inl tk)), (m5, .inl (g5, 60, .inl so)), (m6, .inl (g6, 60, .inl lt)), (m7, .inl (g7, 1000, .inl (upd t.1 t.2.1 x)))]) H := hP
    have hD : va_D A ([(aM, .inr (11, [.ref m1, .int (nI n), .ref m2, .ref m3, .ref m4, .ref m5, .ref m6, .long sto, .int ni, .int ac, .int bl, .ref m7, .int (nI t.2.1)])), (m1, .inl (g1, 8, .inl d)), (m2, .inl (g2, 60, .inl kd)), (m3, .inl (g3, 60, .inl ht)), (m4, .inl (g4, 60, .inl tk)), (m5, .inl (g5, 60, .inl so)), (m6, .inl (g6, 60, .inl lt)), (m7, .inl (g7, 1000, .inl (upd t.1 t.2.1 x)))]) := hD
    refine lv_aload_n hx hb d_M_begins_20 rfl (lv_at hl 0 rfl) ?_
    refine lv_dup hx hb d_M_begins_21 rfl ?_
    refine zget (ci := 11) (fs := [.ref m1, .int (nI n), .ref m2, .ref m3, .ref m4, .ref m5, .ref m6, .long sto, .int ni, .int ac, .int bl, .ref m7, .int (nI t.2.1)]) E hK hP 0 rfl zC_M 12 (by decide) kw_602 (Or.inl rfl) rfl d_M_begins_22 ?_
    refine lv_iconst (v := 1) hx hb d_M_begins_25 (by decide) ?_
    refine lv_iadd hx hb d_M_begins_26 ?_
    rw [nI_1]
    refine zput (ci := 11) (fs := [.ref m1, .int (nI n), .ref m2, .ref m3, .ref m4, .ref m5, .ref m6, .long sto, .int ni, .int ac, .int bl, .ref m7, .int (nI t.2.1)]) (ty := .int) (v := .int (nI (t.2.1 + 1))) (ws2 := [(aM, .inr (11, [.ref m1, .int (nI n), .ref m2, .ref m3, .ref m4, .ref m5, .ref m6, .long sto, .int ni, .int ac, .int bl, .ref m7, .int (nI (t.2.1 + 1))])), (m1, .inl (g1, 8, .inl d)), (m2, .inl (g2, 60, .inl kd)), (m3, .inl (g3, 60, .inl ht)), (m4, .inl (g4, 60, .inl tk)), (m5, .inl (g5, 60, .inl so)), (m6, .inl (g6, 60, .inl lt)), (m7, .inl (g7, 1000, .inl (upd t.1 t.2.1 x)))]) E hK hP hD hS 0 rfl zC_M t_M o_M n_M 12 (by decide) kw_602 (Or.inl rfl) rfl rfl rfl rfl (Nat.le_of_ble_eq_true rfl) d_M_begins_27 (rfl) (fun H locs hP hD hS => ?_)
    exact zrv E hK hP hD hS d_M_begins_30
  · have e9 : tb x t = t := by unfold tb; rw [dif_neg h1]
    rw [e9]
    refine zM_of "CoastLampsModel" rfl (by decide) (Nat.le_of_ble_eq_true rfl) ?_
    intro p e s m below meth c ls E hP hK hD hS hl
    obtain ⟨hx, hb, hml, ho, hts, hr, hlk⟩ := id E
    have hl : lv_has ls 2 [(0, .ref aM), (1, .int x)] := hl
    refine lv_aload_n hx hb d_M_begins_0 rfl (lv_at hl 0 rfl) ?_
    refine zget (ci := 11) (fs := [.ref m1, .int (nI n), .ref m2, .ref m3, .ref m4, .ref m5, .ref m6, .long sto, .int ni, .int ac, .int bl, .ref m7, .int (nI t.2.1)]) E hK hP 0 rfl zC_M 12 (by decide) kw_602 (Or.inl rfl) rfl d_M_begins_1 ?_
    refine lv_sipush (v := 1000) hx hb d_M_begins_4 (by decide) ?_
    rw [show (1000 : Int32) = nI 1000 from by decide]
    refine lv_icmp_ge (tgt := 30) hx hb d_M_begins_7 (by decide) (fun _ => ?_) (fun h9 => absurd (nI_le (by omega) (nI_w t)) h9)
    exact zrv E hK hP hD hS d_M_begins_30
set_option maxHeartbeats 1000000 in
set_option maxRecDepth 100000 in
theorem c_M_act (l : Launch) (dC : Nat → ClassId) (dI : Nat → Nat → Nat) (g1 g2 g3 g4 g5 g6 g7 : ClassId) (A : Nat → Prop) (aM m1 m2 m3 m4 m5 m6 m7 : Nat) (d : Nat → Int32) (n : Nat) (kd ht tk so lt : Nat → Int32) (sto : Int64) (ni ac bl : Int32) (t : zT) : zM l y_M_act b_M_act 1 none 0 0 [.ref aM] (dC, dI) (t7 g1 g2 g3 g4 g5 g6 g7) A (wm g1 g2 g3 g4 g5 g6 g7 aM m1 m2 m3 m4 m5 m6 m7 d n kd ht tk so lt sto ni ac bl t) (wm g1 g2 g3 g4 g5 g6 g7 aM m1 m2 m3 m4 m5 m6 m7 d n kd ht tk so lt sto ni (ac + 1) bl (t.1, ⟨0, by decide⟩)) none := by
  refine zM_of "CoastLampsModel" rfl (by decide) (Nat.le_of_ble_eq_true rfl) ?_
  intro p e s m below meth c ls E hP hK hD hS hl
  obtain ⟨hx, hb, hml, ho, hts, hr, hlk⟩ := id E
  have hl : lv_has ls 1 [(0, .ref aM)] := hl
  refine lv_aload_n hx hb d_M_act_0 rfl (lv_at hl 0 rfl) ?_
  refine lv_iconst (v := 0) hx hb d_M_act_1 (by decide) ?_
  rw [show (0 : Int32) = nI 0 from nI_0.symm]
  refine zput (ci := 11) (fs := [.ref m1, .int (nI n), .ref m2, .ref m3, .ref m4, .ref m5, .ref m6, .long sto, .int ni, .int ac, .int bl, .ref m7, .int (nI t.2.1)]) (ty := .int) (v := .int (nI 0)) (ws2 := [(aM, .inr (11, [.ref m1, .int (nI n), .ref m2, .ref m3, .ref m4, .ref m5, .ref m6, .long sto, .int ni, .int ac, .int bl, .ref m7, .int (nI 0)])), (m1, .inl (g1, 8, .inl d)), (m2, .inl (g2, 60, .inl kd)), (m3, .inl (g3, 60, .inl ht)), (m4, .inl (g4, 60, .inl tk)), (m5, .inl (g5, 60, .inl so)), (m6, .inl (g6, 60, .inl lt)), (m7, .inl (g7, 1000, .inl (t.1)))]) E hK hP hD hS 0 rfl zC_M t_M o_M n_M 12 (by decide) kw_602 (Or.inl rfl) rfl rfl rfl rfl (Nat.le_of_ble_eq_true rfl) d_M_act_2 (rfl) (fun H locs hP hD hS => ?_)
  refine lv_aload_n hx hb d_M_act_5 rfl (lv_at hl 0 rfl) ?_
  refine lv_dup hx hb d_M_act_6 rfl ?_
  refine zget (ci := 11) (fs := [.ref m1, .int (nI n), .ref m2, .ref m3, .ref m4, .ref m5, .ref m6, .long sto, .int ni, .int ac, .int bl, .ref m7, .int (nI 0)]) E hK hP 0 rfl zC_M 9 (by decide) kw_599 (Or.inl rfl) rfl d_M_act_7 ?_
  refine lv_iconst (v := 1) hx hb d_M_act_10 (by decide) ?_
  refine lv_iadd hx hb d_M_act_11 ?_
  refine zput (ci := 11) (fs := [.ref m1, .int (nI n), .ref m2, .ref m3, .ref m4, .ref m5, .ref m6, .long sto, .int ni, .int ac, .int bl, .ref m7, .int (nI 0)]) (ty := .int) (v := .int (ac + 1)) (ws2 := [(aM, .inr (11, [.ref m1, .int (nI n), .ref m2, .ref m3, .ref m4, .ref m5, .ref m6, .long sto, .int ni, .int (ac + 1), .int bl, .ref m7, .int (nI 0)])), (m1, .inl (g1, 8, .inl d)), (m2, .inl (g2, 60, .inl kd)), (m3, .inl (g3, 60, .inl ht)), (m4, .inl (g4, 60, .inl tk)), (m5, .inl (g5, 60, .inl so)), (m6, .inl (g6, 60, .inl lt)), (m7, .inl (g7, 1000, .inl (t.1)))]) E hK hP hD hS 0 rfl zC_M t_M o_M n_M 9 (by decide) kw_599 (Or.inl rfl) rfl rfl rfl rfl (Nat.le_of_ble_eq_true rfl) d_M_act_12 (rfl) (fun H locs hP hD hS => ?_)
  exact zrv E hK hP hD hS d_M_act_15
set_option maxHeartbeats 1000000 in
set_option maxRecDepth 100000 in
theorem c_M_burnLamp (l : Launch) (dC : Nat → ClassId) (dI : Nat → Nat → Nat) (g1 g2 g3 g4 g5 g6 g7 : ClassId) (A : Nat → Prop) (aM m1 m2 m3 m4 m5 m6 m7 : Nat) (d : Nat → Int32) (n : Nat) (kd ht tk so lt : Nat → Int32) (sto : Int64) (ni ac bl : Int32) (i : Nat) (hi : i < 60) (σ : zS) (x : Int32) : zM l y_M_burnLamp b_M_burnLamp 3 (some (FieldType.int)) 1 21 [.ref aM, .int (nI i), .int x] (dC, dI) (t7 g1 g2 g3 g4 g5 g6 g7) A (wm g1 g2 g3 g4 g5 g6 g7 aM m1 m2 m3 m4 m5 m6 m7 d n kd ht tk (upd so i σ.1) lt sto ni ac bl σ.2) (wm g1 g2 g3 g4 g5 g6 g7 aM m1 m2 m3 m4 m5 m6 m7 d n kd ht tk (upd so i (bLamp d x σ).2.1) lt sto ni ac bl (bLamp d x σ).2.2) (some (.int (bLamp d x σ).1)) := by
  refine zM_of "CoastLampsModel" rfl (by decide) (Nat.le_of_ble_eq_true rfl) ?_
  intro p e s m below meth c ls E hP hK hD hS hl
  obtain ⟨hx, hb, hml, ho, hts, hr, hlk⟩ := id E
  have hl : lv_has ls 3 [(0, .ref aM), (1, .int (nI i)), (2, .int x)] := hl
  refine lv_aload_n hx hb d_M_burnLamp_0 rfl (lv_at hl 0 rfl) ?_
  refine lv_iconst (v := 0) hx hb d_M_burnLamp_1 (by decide) ?_
  refine zcV (As := [.int 0]) (rest := []) (ci := 11) E cy_M_begins kw_670 ks_9 kw_668 (c_M_begins l dC dI g1 g2 g3 g4 g5 g6 g7 A aM m1 m2 m3 m4 m5 m6 m7 d n kd ht tk (upd so i σ.1) lt sto ni ac bl σ.2 0) hK hP hD hS 0 rfl zC_M.1 rfl rfl hl.1 rfl (Nat.le_of_ble_eq_true rfl) ⟨Nat.le_of_ble_eq_true rfl, Nat.le_of_ble_eq_true rfl⟩ d_M_burnLamp_2 ⟨Nat.le_refl _, Nat.le_refl _⟩ (fun H locs hP hD hS => ?_)
  have hP : va_P (dC, dI) classes (wm g1 g2 g3 g4 g5 g6 g7 aM m1 m2 m3 m4 m5 m6 m7 d n kd ht tk (upd so i (σ.1, tb 0 σ.2).1) lt sto ni ac bl (σ.1, tb 0 σ.2).2) H := hP
  have hD : va_D A (wm g1 g2 g3 g4 g5 g6 g7 aM m1 m2 m3 m4 m5 m6 m7 d n kd ht tk (upd so i (σ.1, tb 0 σ.2).1) lt sto ni ac bl (σ.1, tb 0 σ.2).2) := hD
  refine lv_aload_n hx hb d_M_burnLamp_5 rfl (lv_at hl 0 rfl) ?_
  refine zget (ci := 11) (fs := [.ref m1, .int (nI n), .ref m2, .ref m3, .ref m4, .ref m5, .ref m6, .long sto, .int ni, .int ac, .int bl, .ref m7, .int (nI (tb 0 σ.2).2.1)]) E hK hP 0 rfl zC_M 5 (by decide) kw_595 (Or.inl rfl) rfl d_M_burnLamp_6 ?_
  refine lv_iload_n hx hb d_M_burnLamp_9 rfl (lv_at hl 1 rfl) ?_
  refine lv_dup2_11 hx hb d_M_burnLamp_10 rfl rfl ?_
  refine va_iald hx hb hK hP 5 4 rfl rfl (vp_in_nI hi (by decide)) d_M_burnLamp_11 ?_
  rw [nI_clamp (i31 hi)]
  rw [pk_us]
  refine lv_iload_n hx hb d_M_burnLamp_12 rfl (lv_at hl 2 rfl) ?_
  refine lv_iadd hx hb d_M_burnLamp_13 ?_
  refine va_iast hx hb hK hP hD hS 5 4 rfl rfl (vp_in_nI hi (by decide)) d_M_burnLamp_14 (fun H locs hP hD hS => ?_)
  rw [nI_clamp (i31 hi)] at hP hD
  rw [upd_upd] at hP hD
  have hP : va_P (dC, dI) classes (wm g1 g2 g3 g4 g5 g6 g7 aM m1 m2 m3 m4 m5 m6 m7 d n kd ht tk (upd so i (σ.1 + x, tb 0 σ.2).1) lt sto ni ac bl (σ.1 + x, tb 0 σ.2).2) H := hP
  have hD : va_D A (wm g1 g2 g3 g4 g5 g6 g7 aM m1 m2 m3 m4 m5 m6 m7 d n kd ht tk (upd so i (σ.1 + x, tb 0 σ.2).1) lt sto ni ac bl (σ.1 + x, tb 0 σ.2).2) := hD
  refine lv_iload_n hx hb d_M_burnLamp_15 rfl (lv_at hl 2 rfl) ?_
  refine lv_aload_n hx hb d_M_burnLamp_16 rfl (lv_at hl 0 rfl) ?_
  refine zget (ci := 11) (fs := [.ref m1, .int (nI n), .ref m2, .ref m3, .ref m4, .ref m5, .ref m6, .long sto, .int ni, .int ac, .int bl, .ref m7, .int (nI (tb 0 σ.2).2.1)]) E hK hP 0 rfl zC_M 0 (by decide) kw_590 (Or.inl rfl) rfl d_M_burnLamp_17 ?_
  refine lv_iconst (v := 0) hx hb d_M_burnLamp_20 (by decide) ?_
  refine va_iald hx hb hK hP 1 0 rfl rfl (by unfold vp_in; decide) d_M_burnLamp_21 ?_
  rw [show (0 : Int32).toNatClampNeg = 0 from by decide]
  refine lv_imul hx hb d_M_burnLamp_22 ?_
  refine lv_iconst (v := 1) hx hb d_M_burnLamp_23 (by decide) ?_
  refine lv_iadd hx hb d_M_burnLamp_24 ?_
  exact zri E hK hP hD hS d_M_burnLamp_25
set_option maxHeartbeats 1000000 in
set_option maxRecDepth 100000 in
theorem c_M_burnOil (l : Launch) (dC : Nat → ClassId) (dI : Nat → Nat → Nat) (g1 g2 g3 g4 g5 g6 g7 : ClassId) (A : Nat → Prop) (aM m1 m2 m3 m4 m5 m6 m7 : Nat) (d : Nat → Int32) (n : Nat) (kd ht tk so lt : Nat → Int32) (sto : Int64) (ni ac bl : Int32) (i : Nat) (hi : i < 60) (σ : zS) (x : Int32) : zM l y_M_burnOil b_M_burnOil 4 (some (FieldType.int)) 2 43 [.ref aM, .int (nI i), .int x] (dC, dI) (t7 g1 g2 g3 g4 g5 g6 g7) A (wm g1 g2 g3 g4 g5 g6 g7 aM m1 m2 m3 m4 m5 m6 m7 d n kd ht tk (upd so i σ.1) lt sto ni ac bl σ.2) (wm g1 g2 g3 g4 g5 g6 g7 aM m1 m2 m3 m4 m5 m6 m7 d n kd ht tk (upd so i (bOil d x σ).2.1) lt sto ni ac bl (bOil d x σ).2.2) (some (.int (bOil d x σ).1)) := by
  refine zM_of "CoastLampsModel" rfl (by decide) (Nat.le_of_ble_eq_true rfl) ?_
  intro p e s m below meth c ls E hP hK hD hS hl
  obtain ⟨hx, hb, hml, ho, hts, hr, hlk⟩ := id E
  have hl : lv_has ls 4 [(0, .ref aM), (1, .int (nI i)), (2, .int x)] := hl
  refine lv_aload_n hx hb d_M_burnOil_0 rfl (lv_at hl 0 rfl) ?_
  refine lv_bipush (v := 10) hx hb d_M_burnOil_1 (by decide) ?_
  refine zcV (As := [.int 10]) (rest := []) (ci := 11) E cy_M_begins kw_670 ks_9 kw_668 (c_M_begins l dC dI g1 g2 g3 g4 g5 g6 g7 A aM m1 m2 m3 m4 m5 m6 m7 d n kd ht tk (upd so i σ.1) lt sto ni ac bl σ.2 10) hK hP hD hS 0 rfl zC_M.1 rfl rfl hl.1 rfl (Nat.le_of_ble_eq_true rfl) ⟨Nat.le_of_ble_eq_true rfl, Nat.le_of_ble_eq_true rfl⟩ d_M_burnOil_3 ⟨Nat.le_refl _, Nat.le_refl _⟩ (fun H locs hP hD hS => ?_)
  have hP : va_P (dC, dI) classes (wm g1 g2 g3 g4 g5 g6 g7 aM m1 m2 m3 m4 m5 m6 m7 d n kd ht tk (upd so i (σ.1, tb 10 σ.2).1) lt sto ni ac bl (σ.1, tb 10 σ.2).2) H := hP
  have hD : va_D A (wm g1 g2 g3 g4 g5 g6 g7 aM m1 m2 m3 m4 m5 m6 m7 d n kd ht tk (upd so i (σ.1, tb 10 σ.2).1) lt sto ni ac bl (σ.1, tb 10 σ.2).2) := hD
  refine lv_aload_n hx hb d_M_burnOil_6 rfl (lv_at hl 0 rfl) ?_
  refine lv_iload_n hx hb d_M_burnOil_7 rfl (lv_at hl 1 rfl) ?_
  refine lv_iload_n hx hb d_M_burnOil_8 rfl (lv_at hl 2 rfl) ?_
  refine zcV (As := [.int (nI i), .int x]) (rest := []) (ci := 11) E cy_M_burnLamp kw_674 ks_10 kw_672 (c_M_burnLamp l dC dI g1 g2 g3 g4 g5 g6 g7 A aM m1 m2 m3 m4 m5 m6 m7 d n kd ht tk so lt sto ni ac bl i hi (σ.1, tb 10 σ.2) x) hK hP hD hS 0 rfl zC_M.1 rfl rfl hl.1 rfl (Nat.le_of_ble_eq_true rfl) ⟨Nat.le_of_ble_eq_true rfl, Nat.le_of_ble_eq_true rfl⟩ d_M_burnOil_9 ⟨Nat.le_refl _, Nat.le_refl _⟩ (fun H locs hP hD hS => ?_)
  have hP : va_P (dC, dI) classes (wm g1 g2 g3 g4 g5 g6 g7 aM m1 m2 m3 m4 m5 m6 m7 d n kd ht tk (upd so i ((bLamp d x (σ.1, tb 10 σ.2)).2).1) lt sto ni ac bl ((bLamp d x (σ.1, tb 10 σ.2)).2).2) H := hP
  have hD : va_D A (wm g1 g2 g3 g4 g5 g6 g7 aM m1 m2 m3 m4 m5 m6 m7 d n kd ht tk (upd so i ((bLamp d x (σ.1, tb 10 σ.2)).2).1) lt sto ni ac bl ((bLamp d x (σ.1, tb 10 σ.2)).2).2) := hD
  refine lv_istore_n (lv' := [(3, .int ((bLamp d x (σ.1, tb 10 σ.2)).1)), (0, .ref aM), (1, .int (nI i)), (2, .int x)]) hx hb d_M_burnOil_12 rfl hl (by decide) rfl (fun ls hl => ?_)
  refine lv_iload_n hx hb d_M_burnOil_13 rfl (lv_at hl 0 rfl) ?_
  refine lv_aload_n hx hb d_M_burnOil_14 rfl (lv_at hl 1 rfl) ?_
  refine zget (ci := 11) (fs := [.ref m1, .int (nI n), .ref m2, .ref m3, .ref m4, .ref m5, .ref m6, .long sto, .int ni, .int ac, .int bl, .ref m7, .int (nI (((bLamp d x (σ.1, tb 10 σ.2)).2).2).2.1)]) E hK hP 0 rfl zC_M 5 (by decide) kw_595 (Or.inl rfl) rfl d_M_burnOil_15 ?_
  refine lv_iload_n hx hb d_M_burnOil_18 rfl (lv_at hl 2 rfl) ?_
  refine va_iald hx hb hK hP 5 4 rfl rfl (vp_in_nI hi (by decide)) d_M_burnOil_19 ?_
  rw [nI_clamp (i31 hi)]
  rw [pk_us]
  refine lv_bipush (v := 50) hx hb d_M_burnOil_20 (by decide) ?_
  refine lv_idiv hx hb d_M_burnOil_22 (by decide) ?_
  refine lv_iadd hx hb d_M_burnOil_23 ?_
  exact zri E hK hP hD hS d_M_burnOil_24
set_option maxHeartbeats 1000000 in
set_option maxRecDepth 100000 in
theorem c_M_burnTwin (l : Launch) (dC : Nat → ClassId) (dI : Nat → Nat → Nat) (g1 g2 g3 g4 g5 g6 g7 : ClassId) (A : Nat → Prop) (aM m1 m2 m3 m4 m5 m6 m7 : Nat) (d : Nat → Int32) (n : Nat) (kd ht tk so lt : Nat → Int32) (sto : Int64) (ni ac bl : Int32) (i : Nat) (hi : i < 60) (σ : zS) (x : Int32) : zM l y_M_burnTwin b_M_burnTwin 4 (some (FieldType.int)) 3 66 [.ref aM, .int (nI i), .int x] (dC, dI) (t7 g1 g2 g3 g4 g5 g6 g7) A (wm g1 g2 g3 g4 g5 g6 g7 aM m1 m2 m3 m4 m5 m6 m7 d n kd ht tk (upd so i σ.1) lt sto ni ac bl σ.2) (wm g1 g2 g3 g4 g5 g6 g7 aM m1 m2 m3 m4 m5 m6 m7 d n kd ht tk (upd so i (bTwin d x σ).2.1) lt sto ni ac bl (bTwin d x σ).2.2) (some (.int (bTwin d x σ).1)) := by
  refine zM_of "CoastLampsModel" rfl (by decide) (Nat.le_of_ble_eq_true rfl) ?_
  intro p e s m below meth c ls E hP hK hD hS hl
  obtain ⟨hx, hb, hml, ho, hts, hr, hlk⟩ := id E
  have hl : lv_has ls 4 [(0, .ref aM), (1, .int (nI i)), (2, .int x)] := hl
  refine lv_aload_n hx hb d_M_burnTwin_0 rfl (lv_at hl 0 rfl) ?_
  refine lv_bipush (v := 30) hx hb d_M_burnTwin_1 (by decide) ?_
  refine zcV (As := [.int 30]) (rest := []) (ci := 11) E cy_M_begins kw_670 ks_9 kw_668 (c_M_begins l dC dI g1 g2 g3 g4 g5 g6 g7 A aM m1 m2 m3 m4 m5 m6 m7 d n kd ht tk (upd so i σ.1) lt sto ni ac bl σ.2 30) hK hP hD hS 0 rfl zC_M.1 rfl rfl hl.1 rfl (Nat.le_of_ble_eq_true rfl) ⟨Nat.le_of_ble_eq_true rfl, Nat.le_of_ble_eq_true rfl⟩ d_M_burnTwin_3 ⟨Nat.le_refl _, Nat.le_refl _⟩ (fun H locs hP hD hS => ?_)
  have hP : va_P (dC, dI) classes (wm g1 g2 g3 g4 g5 g6 g7 aM m1 m2 m3 m4 m5 m6 m7 d n kd ht tk (upd so i (σ.1, tb 30 σ.2).1) lt sto ni ac bl (σ.1, tb 30 σ.2).2) H := hP
  have hD : va_D A (wm g1 g2 g3 g4 g5 g6 g7 aM m1 m2 m3 m4 m5 m6 m7 d n kd ht tk (upd so i (σ.1, tb 30 σ.2).1) lt sto ni ac bl (σ.1, tb 30 σ.2).2) := hD
  refine lv_aload_n hx hb d_M_burnTwin_6 rfl (lv_at hl 0 rfl) ?_
  refine lv_iload_n hx hb d_M_burnTwin_7 rfl (lv_at hl 1 rfl) ?_
  refine lv_iload_n hx hb d_M_burnTwin_8 rfl (lv_at hl 2 rfl) ?_
  refine zcV (As := [.int (nI i), .int x]) (rest := []) (ci := 11) E cy_M_burnOil kw_666 ks_8 kw_664 (c_M_burnOil l dC dI g1 g2 g3 g4 g5 g6 g7 A aM m1 m2 m3 m4 m5 m6 m7 d n kd ht tk so lt sto ni ac bl i hi (σ.1, tb 30 σ.2) x) hK hP hD hS 0 rfl zC_M.1 rfl rfl hl.1 rfl (Nat.le_of_ble_eq_true rfl) ⟨Nat.le_of_ble_eq_true rfl, Nat.le_of_ble_eq_true rfl⟩ d_M_burnTwin_9 ⟨Nat.le_refl _, Nat.le_refl _⟩ (fun H locs hP hD hS => ?_)
  have hP : va_P (dC, dI) classes (wm g1 g2 g3 g4 g5 g6 g7 aM m1 m2 m3 m4 m5 m6 m7 d n kd ht tk (upd so i ((bOil d x (σ.1, tb 30 σ.2)).2).1) lt sto ni ac bl ((bOil d x (σ.1, tb 30 σ.2)).2).2) H := hP
  have hD : va_D A (wm g1 g2 g3 g4 g5 g6 g7 aM m1 m2 m3 m4 m5 m6 m7 d n kd ht tk (upd so i ((bOil d x (σ.1, tb 30 σ.2)).2).1) lt sto ni ac bl ((bOil d x (σ.1, tb 30 σ.2)).2).2) := hD
  refine lv_istore_n (lv' := [(3, .int ((bOil d x (σ.1, tb 30 σ.2)).1)), (0, .ref aM), (1, .int (nI i)), (2, .int x)]) hx hb d_M_burnTwin_12 rfl hl (by decide) rfl (fun ls hl => ?_)
  refine lv_iload_n hx hb d_M_burnTwin_13 rfl (lv_at hl 0 rfl) ?_
  refine lv_aload_n hx hb d_M_burnTwin_14 rfl (lv_at hl 1 rfl) ?_
  refine lv_iload_n hx hb d_M_burnTwin_15 rfl (lv_at hl 2 rfl) ?_
  refine lv_iload_n hx hb d_M_burnTwin_16 rfl (lv_at hl 3 rfl) ?_
  refine zcV (As := [.int (nI i), .int x]) (rest := [.int ((bOil d x (σ.1, tb 30 σ.2)).1)]) (ci := 11) E cy_M_burnOil kw_666 ks_8 kw_664 (c_M_burnOil l dC dI g1 g2 g3 g4 g5 g6 g7 A aM m1 m2 m3 m4 m5 m6 m7 d n kd ht tk so lt sto ni ac bl i hi ((bOil d x (σ.1, tb 30 σ.2)).2) x) hK hP hD hS 0 rfl zC_M.1 rfl rfl hl.1 rfl (Nat.le_of_ble_eq_true rfl) ⟨Nat.le_of_ble_eq_true rfl, Nat.le_of_ble_eq_true rfl⟩ d_M_burnTwin_17 ⟨Nat.le_refl _, Nat.le_refl _⟩ (fun H locs hP hD hS => ?_)
  have hP : va_P (dC, dI) classes (wm g1 g2 g3 g4 g5 g6 g7 aM m1 m2 m3 m4 m5 m6 m7 d n kd ht tk (upd so i ((bOil d x ((bOil d x (σ.1, tb 30 σ.2)).2)).2).1) lt sto ni ac bl ((bOil d x ((bOil d x (σ.1, tb 30 σ.2)).2)).2).2) H := hP
  have hD : va_D A (wm g1 g2 g3 g4 g5 g6 g7 aM m1 m2 m3 m4 m5 m6 m7 d n kd ht tk (upd so i ((bOil d x ((bOil d x (σ.1, tb 30 σ.2)).2)).2).1) lt sto ni ac bl ((bOil d x ((bOil d x (σ.1, tb 30 σ.2)).2)).2).2) := hD
  refine lv_iadd hx hb d_M_burnTwin_20 ?_
  exact zri E hK hP hD hS d_M_burnTwin_21
set_option maxHeartbeats 1000000 in
set_option maxRecDepth 100000 in
theorem c_M_burnSwing (l : Launch) (dC : Nat → ClassId) (dI : Nat → Nat → Nat) (g1 g2 g3 g4 g5 g6 g7 : ClassId) (A : Nat → Prop) (aM m1 m2 m3 m4 m5 m6 m7 : Nat) (d : Nat → Int32) (n : Nat) (kd ht tk so lt : Nat → Int32) (sto : Int64) (ni ac bl : Int32) (i : Nat) (hi : i < 60) (σ : zS) (x : Int32) : zM l y_M_burnSwing b_M_burnSwing 3 (some (FieldType.int)) 4 89 [.ref aM, .int (nI i), .int x] (dC, dI) (t7 g1 g2 g3 g4 g5 g6 g7) A (wm g1 g2 g3 g4 g5 g6 g7 aM m1 m2 m3 m4 m5 m6 m7 d n kd ht tk (upd so i σ.1) lt sto ni ac bl σ.2) (wm g1 g2 g3 g4 g5 g6 g7 aM m1 m2 m3 m4 m5 m6 m7 d n kd ht tk (upd so i (bSwing d x σ).2.1) lt sto ni ac bl (bSwing d x σ).2.2) (some (.int (bSwing d x σ).1)) := by
  refine zM_of "CoastLampsModel" rfl (by decide) (Nat.le_of_ble_eq_true rfl) ?_
  intro p e s m below meth c ls E hP hK hD hS hl
  obtain ⟨hx, hb, hml, ho, hts, hr, hlk⟩ := id E
  have hl : lv_has ls 3 [(0, .ref aM), (1, .int (nI i)), (2, .int x)] := hl
  refine lv_aload_n hx hb d_M_burnSwing_0 rfl (lv_at hl 0 rfl) ?_
  refine lv_bipush (v := 50) hx hb d_M_burnSwing_1 (by decide) ?_
  refine zcV (As := [.int 50]) (rest := []) (ci := 11) E cy_M_begins kw_670 ks_9 kw_668 (c_M_begins l dC dI g1 g2 g3 g4 g5 g6 g7 A aM m1 m2 m3 m4 m5 m6 m7 d n kd ht tk (upd so i σ.1) lt sto ni ac bl σ.2 50) hK hP hD hS 0 rfl zC_M.1 rfl rfl hl.1 rfl (Nat.le_of_ble_eq_true rfl) ⟨Nat.le_of_ble_eq_true rfl, Nat.le_of_ble_eq_true rfl⟩ d_M_burnSwing_3 ⟨Nat.le_refl _, Nat.le_refl _⟩ (fun H locs hP hD hS => ?_)
  have hP : va_P (dC, dI) classes (wm g1 g2 g3 g4 g5 g6 g7 aM m1 m2 m3 m4 m5 m6 m7 d n kd ht tk (upd so i (σ.1, tb 50 σ.2).1) lt sto ni ac bl (σ.1, tb 50 σ.2).2) H := hP
  have hD : va_D A (wm g1 g2 g3 g4 g5 g6 g7 aM m1 m2 m3 m4 m5 m6 m7 d n kd ht tk (upd so i (σ.1, tb 50 σ.2).1) lt sto ni ac bl (σ.1, tb 50 σ.2).2) := hD
  refine lv_aload_n hx hb d_M_burnSwing_6 rfl (lv_at hl 0 rfl) ?_
  refine lv_iload_n hx hb d_M_burnSwing_7 rfl (lv_at hl 1 rfl) ?_
  refine lv_iload_n hx hb d_M_burnSwing_8 rfl (lv_at hl 2 rfl) ?_
  refine zcV (As := [.int (nI i), .int x]) (rest := []) (ci := 11) E cy_M_burnTwin kw_678 ks_11 kw_676 (c_M_burnTwin l dC dI g1 g2 g3 g4 g5 g6 g7 A aM m1 m2 m3 m4 m5 m6 m7 d n kd ht tk so lt sto ni ac bl i hi (σ.1, tb 50 σ.2) x) hK hP hD hS 0 rfl zC_M.1 rfl rfl hl.1 rfl (Nat.le_of_ble_eq_true rfl) ⟨Nat.le_of_ble_eq_true rfl, Nat.le_of_ble_eq_true rfl⟩ d_M_burnSwing_9 ⟨Nat.le_refl _, Nat.le_refl _⟩ (fun H locs hP hD hS => ?_)
  have hP : va_P (dC, dI) classes (wm g1 g2 g3 g4 g5 g6 g7 aM m1 m2 m3 m4 m5 m6 m7 d n kd ht tk (upd so i ((bTwin d x (σ.1, tb 50 σ.2)).2).1) lt sto ni ac bl ((bTwin d x (σ.1, tb 50 σ.2)).2).2) H := hP
  have hD : va_D A (wm g1 g2 g3 g4 g5 g6 g7 aM m1 m2 m3 m4 m5 m6 m7 d n kd ht tk (upd so i ((bTwin d x (σ.1, tb 50 σ.2)).2).1) lt sto ni ac bl ((bTwin d x (σ.1, tb 50 σ.2)).2).2) := hD
  refine lv_iload_n hx hb d_M_burnSwing_12 rfl (lv_at hl 2 rfl) ?_
  refine lv_iconst (v := 2) hx hb d_M_burnSwing_13 (by decide) ?_
  refine lv_idiv hx hb d_M_burnSwing_14 (by decide) ?_
  refine lv_iadd hx hb d_M_burnSwing_15 ?_
  exact zri E hK hP hD hS d_M_burnSwing_16
set_option maxHeartbeats 1000000 in
set_option maxRecDepth 100000 in
theorem c_M_burnFlare (l : Launch) (dC : Nat → ClassId) (dI : Nat → Nat → Nat) (g1 g2 g3 g4 g5 g6 g7 : ClassId) (A : Nat → Prop) (aM m1 m2 m3 m4 m5 m6 m7 : Nat) (d : Nat → Int32) (n : Nat) (kd ht tk so lt : Nat → Int32) (sto : Int64) (ni ac bl : Int32) (i : Nat) (hi : i < 60) (σ : zS) (x : Int32) : zM l y_M_burnFlare b_M_burnFlare 3 (some (FieldType.int)) 2 43 [.ref aM, .int (nI i), .int x] (dC, dI) (t7 g1 g2 g3 g4 g5 g6 g7) A (wm g1 g2 g3 g4 g5 g6 g7 aM m1 m2 m3 m4 m5 m6 m7 d n kd ht tk (upd so i σ.1) lt sto ni ac bl σ.2) (wm g1 g2 g3 g4 g5 g6 g7 aM m1 m2 m3 m4 m5 m6 m7 d n kd ht tk (upd so i (bFlare d x σ).2.1) lt sto ni ac bl (bFlare d x σ).2.2) (some (.int (bFlare d x σ).1)) := by
  refine zM_of "CoastLampsModel" rfl (by decide) (Nat.le_of_ble_eq_true rfl) ?_
  intro p e s m below meth c ls E hP hK hD hS hl
  obtain ⟨hx, hb, hml, ho, hts, hr, hlk⟩ := id E
  have hl : lv_has ls 3 [(0, .ref aM), (1, .int (nI i)), (2, .int x)] := hl
  refine lv_aload_n hx hb d_M_burnFlare_0 rfl (lv_at hl 0 rfl) ?_
  refine lv_bipush (v := 70) hx hb d_M_burnFlare_1 (by decide) ?_
  refine zcV (As := [.int 70]) (rest := []) (ci := 11) E cy_M_begins kw_670 ks_9 kw_668 (c_M_begins l dC dI g1 g2 g3 g4 g5 g6 g7 A aM m1 m2 m3 m4 m5 m6 m7 d n kd ht tk (upd so i σ.1) lt sto ni ac bl σ.2 70) hK hP hD hS 0 rfl zC_M.1 rfl rfl hl.1 rfl (Nat.le_of_ble_eq_true rfl) ⟨Nat.le_of_ble_eq_true rfl, Nat.le_of_ble_eq_true rfl⟩ d_M_burnFlare_3 ⟨Nat.le_refl _, Nat.le_refl _⟩ (fun H locs hP hD hS => ?_)
  have hP : va_P (dC, dI) classes (wm g1 g2 g3 g4 g5 g6 g7 aM m1 m2 m3 m4 m5 m6 m7 d n kd ht tk (upd so i (σ.1, tb 70 σ.2).1) lt sto ni ac bl (σ.1, tb 70 σ.2).2) H := hP
  have hD : va_D A (wm g1 g2 g3 g4 g5 g6 g7 aM m1 m2 m3 m4 m5 m6 m7 d n kd ht tk (upd so i (σ.1, tb 70 σ.2).1) lt sto ni ac bl (σ.1, tb 70 σ.2).2) := hD
  refine lv_aload_n hx hb d_M_burnFlare_6 rfl (lv_at hl 0 rfl) ?_
  refine lv_iload_n hx hb d_M_burnFlare_7 rfl (lv_at hl 1 rfl) ?_
  refine lv_iload_n hx hb d_M_burnFlare_8 rfl (lv_at hl 2 rfl) ?_
  refine lv_iconst (v := 2) hx hb d_M_burnFlare_9 (by decide) ?_
  refine lv_idiv hx hb d_M_burnFlare_10 (by decide) ?_
  refine zcV (As := [.int (nI i), .int (x / 2)]) (rest := []) (ci := 11) E cy_M_burnLamp kw_674 ks_10 kw_672 (c_M_burnLamp l dC dI g1 g2 g3 g4 g5 g6 g7 A aM m1 m2 m3 m4 m5 m6 m7 d n kd ht tk so lt sto ni ac bl i hi (σ.1, tb 70 σ.2) (x / 2)) hK hP hD hS 0 rfl zC_M.1 rfl rfl hl.1 rfl (Nat.le_of_ble_eq_true rfl) ⟨Nat.le_of_ble_eq_true rfl, Nat.le_of_ble_eq_true rfl⟩ d_M_burnFlare_11 ⟨Nat.le_refl _, Nat.le_refl _⟩ (fun H locs hP hD hS => ?_)
  have hP : va_P (dC, dI) classes (wm g1 g2 g3 g4 g5 g6 g7 aM m1 m2 m3 m4 m5 m6 m7 d n kd ht tk (upd so i ((bLamp d (x / 2) (σ.1, tb 70 σ.2)).2).1) lt sto ni ac bl ((bLamp d (x / 2) (σ.1, tb 70 σ.2)).2).2) H := hP
  have hD : va_D A (wm g1 g2 g3 g4 g5 g6 g7 aM m1 m2 m3 m4 m5 m6 m7 d n kd ht tk (upd so i ((bLamp d (x / 2) (σ.1, tb 70 σ.2)).2).1) lt sto ni ac bl ((bLamp d (x / 2) (σ.1, tb 70 σ.2)).2).2) := hD
  exact zri E hK hP hD hS d_M_burnFlare_14
set_option maxHeartbeats 1000000 in
set_option maxRecDepth 100000 in
theorem c_M_burnOuter (l : Launch) (dC : Nat → ClassId) (dI : Nat → Nat → Nat) (g1 g2 g3 g4 g5 g6 g7 : ClassId) (A : Nat → Prop) (aM m1 m2 m3 m4 m5 m6 m7 : Nat) (d : Nat → Int32) (n : Nat) (kd ht tk so lt : Nat → Int32) (sto : Int64) (ni ac bl : Int32) (i : Nat) (hi : i < 60) (σ : zS) (x : Int32) : zM l y_M_burnOuter b_M_burnOuter 4 (some (FieldType.int)) 3 65 [.ref aM, .int (nI i), .int x] (dC, dI) (t7 g1 g2 g3 g4 g5 g6 g7) A (wm g1 g2 g3 g4 g5 g6 g7 aM m1 m2 m3 m4 m5 m6 m7 d n kd ht tk (upd so i σ.1) lt sto ni ac bl σ.2) (wm g1 g2 g3 g4 g5 g6 g7 aM m1 m2 m3 m4 m5 m6 m7 d n kd ht tk (upd so i (bOuter d x σ).2.1) lt sto ni ac bl (bOuter d x σ).2.2) (some (.int (bOuter d x σ).1)) := by
  by_cases h1 : (bFlare d x (σ.1, tb 90 σ.2)).1 - d 1 < 0
  · have e9 : bOuter d x σ = (0, (bFlare d x (σ.1, tb 90 σ.2)).2) := by simp only [bOuter, if_pos h1]
    rw [e9]
    try dsimp only
    refine zM_of "CoastLampsModel" rfl (by decide) (Nat.le_of_ble_eq_true rfl) ?_
    intro p e s m below meth c ls E hP hK hD hS hl
    obtain ⟨hx, hb, hml, ho, hts, hr, hlk⟩ := id E
    have hl : lv_has ls 4 [(0, .ref aM), (1, .int (nI i)), (2, .int x)] := hl
    refine lv_aload_n hx hb d_M_burnOuter_0 rfl (lv_at hl 0 rfl) ?_
    refine lv_bipush (v := 90) hx hb d_M_burnOuter_1 (by decide) ?_
    refine zcV (As := [.int 90]) (rest := []) (ci := 11) E cy_M_begins kw_670 ks_9 kw_668 (c_M_begins l dC dI g1 g2 g3 g4 g5 g6 g7 A aM m1 m2 m3 m4 m5 m6 m7 d n kd ht tk (upd so i σ.1) lt sto ni ac bl σ.2 90) hK hP hD hS 0 rfl zC_M.1 rfl rfl hl.1 rfl (Nat.le_of_ble_eq_true rfl) ⟨Nat.le_of_ble_eq_true rfl, Nat.le_of_ble_eq_true rfl⟩ d_M_burnOuter_3 ⟨Nat.le_refl _, Nat.le_refl _⟩ (fun H locs hP hD hS => ?_)
    have hP : va_P (dC, dI) classes (wm g1 g2 g3 g4 g5 g6 g7 aM m1 m2 m3 m4 m5 m6 m7 d n kd ht tk (upd so i (σ.1, tb 90 σ.2).1) lt sto ni ac bl (σ.1, tb 90 σ.2).2) H := hP
    have hD : va_D A (wm g1 g2 g3 g4 g5 g6 g7 aM m1 m2 m3 m4 m5 m6 m7 d n kd ht tk (upd so i (σ.1, tb 90 σ.2).1) lt sto ni ac bl (σ.1, tb 90 σ.2).2) := hD
    refine lv_aload_n hx hb d_M_burnOuter_6 rfl (lv_at hl 0 rfl) ?_
    refine lv_iload_n hx hb d_M_burnOuter_7 rfl (lv_at hl 1 rfl) ?_
    refine lv_iload_n hx hb d_M_burnOuter_8 rfl (lv_at hl 2 rfl) ?_
    refine zcV (As := [.int (nI i), .int x]) (rest := []) (ci := 11) E cy_M_burnFlare kw_690 ks_14 kw_688 (c_M_burnFlare l dC dI g1 g2 g3 g4 g5 g6 g7 A aM m1 m2 m3 m4 m5 m6 m7 d n kd ht tk so lt sto ni ac bl i hi (σ.1, tb 90 σ.2) x) hK hP hD hS 0 rfl zC_M.1 rfl rfl hl.1 rfl (Nat.le_of_ble_eq_true rfl) ⟨Nat.le_of_ble_eq_true rfl, Nat.le_of_ble_eq_true rfl⟩ d_M_burnOuter_9 ⟨Nat.le_refl _, Nat.le_refl _⟩ (fun H locs hP hD hS => ?_)
    have hP : va_P (dC, dI) classes (wm g1 g2 g3 g4 g5 g6 g7 aM m1 m2 m3 m4 m5 m6 m7 d n kd ht tk (upd so i ((bFlare d x (σ.1, tb 90 σ.2)).2).1) lt sto ni ac bl ((bFlare d x (σ.1, tb 90 σ.2)).2).2) H := hP
    have hD : va_D A (wm g1 g2 g3 g4 g5 g6 g7 aM m1 m2 m3 m4 m5 m6 m7 d n kd ht tk (upd so i ((bFlare d x (σ.1, tb 90 σ.2)).2).1) lt sto ni ac bl ((bFlare d x (σ.1, tb 90 σ.2)).2).2) := hD
    refine lv_aload_n hx hb d_M_burnOuter_12 rfl (lv_at hl 0 rfl) ?_
    refine zget (ci := 11) (fs := [.ref m1, .int (nI n), .ref m2, .ref m3, .ref m4, .ref m5, .ref m6, .long sto, .int ni, .int ac, .int bl, .ref m7, .int (nI (((bFlare d x (σ.1, tb 90 σ.2)).2).2).2.1)]) E hK hP 0 rfl zC_M 0 (by decide) kw_590 (Or.inl rfl) rfl d_M_burnOuter_13 ?_
    refine lv_iconst (v := 1) hx hb d_M_burnOuter_16 (by decide) ?_
    refine va_iald hx hb hK hP 1 0 rfl rfl (by unfold vp_in; decide) d_M_burnOuter_17 ?_
    rw [show (1 : Int32).toNatClampNeg = 1 from by decide]
    refine lv_isub hx hb d_M_burnOuter_18 ?_
    refine lv_istore_n (lv' := [(3, .int (((bFlare d x (σ.1, tb 90 σ.2)).1) - (d 1))), (0, .ref aM), (1, .int (nI i)), (2, .int x)]) hx hb d_M_burnOuter_19 rfl hl (by decide) rfl (fun ls hl => ?_)
    refine lv_iload_n hx hb d_M_burnOuter_20 rfl (lv_at hl 0 rfl) ?_
    refine lv_if_ge (tgt := 28) hx hb d_M_burnOuter_21 (by decide) (fun h9 => absurd h9 (Int32.not_le.mpr h1)) (fun _ => ?_)
    refine lv_iconst (v := 0) hx hb d_M_burnOuter_24 (by decide) ?_
    refine lv_goto (tgt := 29) hx hb d_M_burnOuter_25 (by decide) ?_
    exact zri E hK hP hD hS d_M_burnOuter_29
  · have e9 : bOuter d x σ = ((bFlare d x (σ.1, tb 90 σ.2)).1 - d 1, (bFlare d x (σ.1, tb 90 σ.2)).2) := by simp only [bOuter, if_neg h1]
    rw [e9]
    try dsimp only
    refine zM_of "CoastLampsModel" rfl (by decide) (Nat.le_of_ble_eq_true rfl) ?_
    intro p e s m below meth c ls E hP hK hD hS hl
    obtain ⟨hx, hb, hml, ho, hts, hr, hlk⟩ := id E
    have hl : lv_has ls 4 [(0, .ref aM), (1, .int (nI i)), (2, .int x)] := hl
    refine lv_aload_n hx hb d_M_burnOuter_0 rfl (lv_at hl 0 rfl) ?_
    refine lv_bipush (v := 90) hx hb d_M_burnOuter_1 (by decide) ?_
    refine zcV (As := [.int 90]) (rest := []) (ci := 11) E cy_M_begins kw_670 ks_9 kw_668 (c_M_begins l dC dI g1 g2 g3 g4 g5 g6 g7 A aM m1 m2 m3 m4 m5 m6 m7 d n kd ht tk (upd so i σ.1) lt sto ni ac bl σ.2 90) hK hP hD hS 0 rfl zC_M.1 rfl rfl hl.1 rfl (Nat.le_of_ble_eq_true rfl) ⟨Nat.le_of_ble_eq_true rfl, Nat.le_of_ble_eq_true rfl⟩ d_M_burnOuter_3 ⟨Nat.le_refl _, Nat.le_refl _⟩ (fun H locs hP hD hS => ?_)
    have hP : va_P (dC, dI) classes (wm g1 g2 g3 g4 g5 g6 g7 aM m1 m2 m3 m4 m5 m6 m7 d n kd ht tk (upd so i (σ.1, tb 90 σ.2).1) lt sto ni ac bl (σ.1, tb 90 σ.2).2) H := hP
    have hD : va_D A (wm g1 g2 g3 g4 g5 g6 g7 aM m1 m2 m3 m4 m5 m6 m7 d n kd ht tk (upd so i (σ.1, tb 90 σ.2).1) lt sto ni ac bl (σ.1, tb 90 σ.2).2) := hD
    refine lv_aload_n hx hb d_M_burnOuter_6 rfl (lv_at hl 0 rfl) ?_
    refine lv_iload_n hx hb d_M_burnOuter_7 rfl (lv_at hl 1 rfl) ?_
    refine lv_iload_n hx hb d_M_burnOuter_8 rfl (lv_at hl 2 rfl) ?_
    refine zcV (As := [.int (nI i), .int x]) (rest := []) (ci := 11) E cy_M_burnFlare kw_690 ks_14 kw_688 (c_M_burnFlare l dC dI g1 g2 g3 g4 g5 g6 g7 A aM m1 m2 m3 m4 m5 m6 m7 d n kd ht tk so lt sto ni ac bl i hi (σ.1, tb 90 σ.2) x) hK hP hD hS 0 rfl zC_M.1 rfl rfl hl.1 rfl (Nat.le_of_ble_eq_true rfl) ⟨Nat.le_of_ble_eq_true rfl, Nat.le_of_ble_eq_true rfl⟩ d_M_burnOuter_9 ⟨Nat.le_refl _, Nat.le_refl _⟩ (fun H locs hP hD hS => ?_)
    have hP : va_P (dC, dI) classes (wm g1 g2 g3 g4 g5 g6 g7 aM m1 m2 m3 m4 m5 m6 m7 d n kd ht tk (upd so i ((bFlare d x (σ.1, tb 90 σ.2)).2).1) lt sto ni ac bl ((bFlare d x (σ.1, tb 90 σ.2)).2).2) H := hP
    have hD : va_D A (wm g1 g2 g3 g4 g5 g6 g7 aM m1 m2 m3 m4 m5 m6 m7 d n kd ht tk (upd so i ((bFlare d x (σ.1, tb 90 σ.2)).2).1) lt sto ni ac bl ((bFlare d x (σ.1, tb 90 σ.2)).2).2) := hD
    refine lv_aload_n hx hb d_M_burnOuter_12 rfl (lv_at hl 0 rfl) ?_
    refine zget (ci := 11) (fs := [.ref m1, .int (nI n), .ref m2, .ref m3, .ref m4, .ref m5, .ref m6, .long sto, .int ni, .int ac, .int bl, .ref m7, .int (nI (((bFlare d x (σ.1, tb 90 σ.2)).2).2).2.1)]) E hK hP 0 rfl zC_M 0 (by decide) kw_590 (Or.inl rfl) rfl d_M_burnOuter_13 ?_
    refine lv_iconst (v := 1) hx hb d_M_burnOuter_16 (by decide) ?_
    refine va_iald hx hb hK hP 1 0 rfl rfl (by unfold vp_in; decide) d_M_burnOuter_17 ?_
    rw [show (1 : Int32).toNatClampNeg = 1 from by decide]
    refine lv_isub hx hb d_M_burnOuter_18 ?_
    refine lv_istore_n (lv' := [(3, .int (((bFlare d x (σ.1, tb 90 σ.2)).1) - (d 1))), (0, .ref aM), (1, .int (nI i)), (2, .int x)]) hx hb d_M_burnOuter_19 rfl hl (by decide) rfl (fun ls hl => ?_)
    refine lv_iload_n hx hb d_M_burnOuter_20 rfl (lv_at hl 0 rfl) ?_
    refine lv_if_ge (tgt := 28) hx hb d_M_burnOuter_21 (by decide) (fun _ => ?_) (fun h9 => absurd (Int32.not_lt.mp h1) h9)
    refine lv_iload_n hx hb d_M_burnOuter_28 rfl (lv_at hl 0 rfl) ?_
    exact zri E hK hP hD hS d_M_burnOuter_29
set_option maxHeartbeats 1000000 in
set_option maxRecDepth 100000 in
theorem c_M_reachLamp (l : Launch) (dC : Nat → ClassId) (dI : Nat → Nat → Nat) (g1 g2 g3 g4 g5 g6 g7 : ClassId) (A : Nat → Prop) (aM m1 m2 m3 m4 m5 m6 m7 : Nat) (d : Nat → Int32) (n : Nat) (kd ht tk so lt : Nat → Int32) (sto : Int64) (ni ac bl : Int32) (i : Nat) (hi : i < 60) (σ : zS) (x : Int32) : zM l y_M_reachLamp b_M_reachLamp 3 (some (FieldType.int)) 1 21 [.ref aM, .int (nI i), .int x] (dC, dI) (t7 g1 g2 g3 g4 g5 g6 g7) A (wm g1 g2 g3 g4 g5 g6 g7 aM m1 m2 m3 m4 m5 m6 m7 d n kd ht tk (upd so i σ.1) lt sto ni ac bl σ.2) (wm g1 g2 g3 g4 g5 g6 g7 aM m1 m2 m3 m4 m5 m6 m7 d n kd ht tk (upd so i (rLamp (ht i) x σ).2.1) lt sto ni ac bl (rLamp (ht i) x σ).2.2) (some (.int (rLamp (ht i) x σ).1)) := by
  refine zM_of "CoastLampsModel" rfl (by decide) (Nat.le_of_ble_eq_true rfl) ?_
  intro p e s m below meth c ls E hP hK hD hS hl
  obtain ⟨hx, hb, hml, ho, hts, hr, hlk⟩ := id E
  have hl : lv_has ls 3 [(0, .ref aM), (1, .int (nI i)), (2, .int x)] := hl
  refine lv_aload_n hx hb d_M_reachLamp_0 rfl (lv_at hl 0 rfl) ?_
  refine lv_iconst (v := 1) hx hb d_M_reachLamp_1 (by decide) ?_
  refine zcV (As := [.int 1]) (rest := []) (ci := 11) E cy_M_begins kw_670 ks_9 kw_668 (c_M_begins l dC dI g1 g2 g3 g4 g5 g6 g7 A aM m1 m2 m3 m4 m5 m6 m7 d n kd ht tk (upd so i σ.1) lt sto ni ac bl σ.2 1) hK hP hD hS 0 rfl zC_M.1 rfl rfl hl.1 rfl (Nat.le_of_ble_eq_true rfl) ⟨Nat.le_of_ble_eq_true rfl, Nat.le_of_ble_eq_true rfl⟩ d_M_reachLamp_2 ⟨Nat.le_refl _, Nat.le_refl _⟩ (fun H locs hP hD hS => ?_)
  have hP : va_P (dC, dI) classes (wm g1 g2 g3 g4 g5 g6 g7 aM m1 m2 m3 m4 m5 m6 m7 d n kd ht tk (upd so i (σ.1, tb 1 σ.2).1) lt sto ni ac bl (σ.1, tb 1 σ.2).2) H := hP
  have hD : va_D A (wm g1 g2 g3 g4 g5 g6 g7 aM m1 m2 m3 m4 m5 m6 m7 d n kd ht tk (upd so i (σ.1, tb 1 σ.2).1) lt sto ni ac bl (σ.1, tb 1 σ.2).2) := hD
  refine lv_aload_n hx hb d_M_reachLamp_5 rfl (lv_at hl 0 rfl) ?_
  refine zget (ci := 11) (fs := [.ref m1, .int (nI n), .ref m2, .ref m3, .ref m4, .ref m5, .ref m6, .long sto, .int ni, .int ac, .int bl, .ref m7, .int (nI (tb 1 σ.2).2.1)]) E hK hP 0 rfl zC_M 3 (by decide) kw_593 (Or.inl rfl) rfl d_M_reachLamp_6 ?_
  refine lv_iload_n hx hb d_M_reachLamp_9 rfl (lv_at hl 1 rfl) ?_
  refine va_iald hx hb hK hP 3 2 rfl rfl (vp_in_nI hi (by decide)) d_M_reachLamp_10 ?_
  rw [nI_clamp (i31 hi)]
  refine lv_bipush (v := 10) hx hb d_M_reachLamp_11 (by decide) ?_
  refine lv_idiv hx hb d_M_reachLamp_13 (by decide) ?_
  refine lv_bipush (v := 30) hx hb d_M_reachLamp_14 (by decide) ?_
  refine lv_iadd hx hb d_M_reachLamp_16 ?_
  refine lv_iconst (v := 3) hx hb d_M_reachLamp_17 (by decide) ?_
  refine lv_iload_n hx hb d_M_reachLamp_18 rfl (lv_at hl 2 rfl) ?_
  refine lv_imul hx hb d_M_reachLamp_19 ?_
  refine lv_isub hx hb d_M_reachLamp_20 ?_
  exact zri E hK hP hD hS d_M_reachLamp_21
set_option maxHeartbeats 1000000 in
set_option maxRecDepth 100000 in
theorem c_M_reachRound (l : Launch) (dC : Nat → ClassId) (dI : Nat → Nat → Nat) (g1 g2 g3 g4 g5 g6 g7 : ClassId) (A : Nat → Prop) (aM m1 m2 m3 m4 m5 m6 m7 : Nat) (d : Nat → Int32) (n : Nat) (kd ht tk so lt : Nat → Int32) (sto : Int64) (ni ac bl : Int32) (i : Nat) (hi : i < 60) (σ : zS) (x : Int32) : zM l y_M_reachRound b_M_reachRound 3 (some (FieldType.int)) 2 43 [.ref aM, .int (nI i), .int x] (dC, dI) (t7 g1 g2 g3 g4 g5 g6 g7) A (wm g1 g2 g3 g4 g5 g6 g7 aM m1 m2 m3 m4 m5 m6 m7 d n kd ht tk (upd so i σ.1) lt sto ni ac bl σ.2) (wm g1 g2 g3 g4 g5 g6 g7 aM m1 m2 m3 m4 m5 m6 m7 d n kd ht tk (upd so i (rRound d (ht i) x σ).2.1) lt sto ni ac bl (rRound d (ht i) x σ).2.2) (some (.int (rRound d (ht i) x σ).1)) := by
  refine zM_of "CoastLampsModel" rfl (by decide) (Nat.le_of_ble_eq_true rfl) ?_
  intro p e s m below meth c ls E hP hK hD hS hl
  obtain ⟨hx, hb, hml, ho, hts, hr, hlk⟩ := id E
  have hl : lv_has ls 3 [(0, .ref aM), (1, .int (nI i)), (2, .int x)] := hl
  refine lv_aload_n hx hb d_M_reachRound_0 rfl (lv_at hl 0 rfl) ?_
  refine lv_bipush (v := 21) hx hb d_M_reachRound_1 (by decide) ?_
  refine zcV (As := [.int 21]) (rest := []) (ci := 11) E cy_M_begins kw_670 ks_9 kw_668 (c_M_begins l dC dI g1 g2 g3 g4 g5 g6 g7 A aM m1 m2 m3 m4 m5 m6 m7 d n kd ht tk (upd so i σ.1) lt sto ni ac bl σ.2 21) hK hP hD hS 0 rfl zC_M.1 rfl rfl hl.1 rfl (Nat.le_of_ble_eq_true rfl) ⟨Nat.le_of_ble_eq_true rfl, Nat.le_of_ble_eq_true rfl⟩ d_M_reachRound_3 ⟨Nat.le_refl _, Nat.le_refl _⟩ (fun H locs hP hD hS => ?_)
  have hP : va_P (dC, dI) classes (wm g1 g2 g3 g4 g5 g6 g7 aM m1 m2 m3 m4 m5 m6 m7 d n kd ht tk (upd so i (σ.1, tb 21 σ.2).1) lt sto ni ac bl (σ.1, tb 21 σ.2).2) H := hP
  have hD : va_D A (wm g1 g2 g3 g4 g5 g6 g7 aM m1 m2 m3 m4 m5 m6 m7 d n kd ht tk (upd so i (σ.1, tb 21 σ.2).1) lt sto ni ac bl (σ.1, tb 21 σ.2).2) := hD
  refine lv_aload_n hx hb d_M_reachRound_6 rfl (lv_at hl 0 rfl) ?_
  refine lv_iload_n hx hb d_M_reachRound_7 rfl (lv_at hl 1 rfl) ?_
  refine lv_iload_n hx hb d_M_reachRound_8 rfl (lv_at hl 2 rfl) ?_
  refine zcV (As := [.int (nI i), .int x]) (rest := []) (ci := 11) E cy_M_reachLamp kw_698 ks_16 kw_696 (c_M_reachLamp l dC dI g1 g2 g3 g4 g5 g6 g7 A aM m1 m2 m3 m4 m5 m6 m7 d n kd ht tk so lt sto ni ac bl i hi (σ.1, tb 21 σ.2) x) hK hP hD hS 0 rfl zC_M.1 rfl rfl hl.1 rfl (Nat.le_of_ble_eq_true rfl) ⟨Nat.le_of_ble_eq_true rfl, Nat.le_of_ble_eq_true rfl⟩ d_M_reachRound_9 ⟨Nat.le_refl _, Nat.le_refl _⟩ (fun H locs hP hD hS => ?_)
  have hP : va_P (dC, dI) classes (wm g1 g2 g3 g4 g5 g6 g7 aM m1 m2 m3 m4 m5 m6 m7 d n kd ht tk (upd so i ((rLamp (ht i) x (σ.1, tb 21 σ.2)).2).1) lt sto ni ac bl ((rLamp (ht i) x (σ.1, tb 21 σ.2)).2).2) H := hP
  have hD : va_D A (wm g1 g2 g3 g4 g5 g6 g7 aM m1 m2 m3 m4 m5 m6 m7 d n kd ht tk (upd so i ((rLamp (ht i) x (σ.1, tb 21 σ.2)).2).1) lt sto ni ac bl ((rLamp (ht i) x (σ.1, tb 21 σ.2)).2).2) := hD
  refine lv_aload_n hx hb d_M_reachRound_12 rfl (lv_at hl 0 rfl) ?_
  refine zget (ci := 11) (fs := [.ref m1, .int (nI n), .ref m2, .ref m3, .ref m4, .ref m5, .ref m6, .long sto, .int ni, .int ac, .int bl, .ref m7, .int (nI (((rLamp (ht i) x (σ.1, tb 21 σ.2)).2).2).2.1)]) E hK hP 0 rfl zC_M 0 (by decide) kw_590 (Or.inl rfl) rfl d_M_reachRound_13 ?_
  refine lv_iconst (v := 2) hx hb d_M_reachRound_16 (by decide) ?_
  refine va_iald hx hb hK hP 1 0 rfl rfl (by unfold vp_in; decide) d_M_reachRound_17 ?_
  rw [show (2 : Int32).toNatClampNeg = 2 from by decide]
  refine lv_iadd hx hb d_M_reachRound_18 ?_
  exact zri E hK hP hD hS d_M_reachRound_19
set_option maxHeartbeats 1000000 in
set_option maxRecDepth 100000 in
theorem c_M_reachTwin (l : Launch) (dC : Nat → ClassId) (dI : Nat → Nat → Nat) (g1 g2 g3 g4 g5 g6 g7 : ClassId) (A : Nat → Prop) (aM m1 m2 m3 m4 m5 m6 m7 : Nat) (d : Nat → Int32) (n : Nat) (kd ht tk so lt : Nat → Int32) (sto : Int64) (ni ac bl : Int32) (i : Nat) (hi : i < 60) (σ : zS) (x : Int32) : zM l y_M_reachTwin b_M_reachTwin 4 (some (FieldType.int)) 3 65 [.ref aM, .int (nI i), .int x] (dC, dI) (t7 g1 g2 g3 g4 g5 g6 g7) A (wm g1 g2 g3 g4 g5 g6 g7 aM m1 m2 m3 m4 m5 m6 m7 d n kd ht tk (upd so i σ.1) lt sto ni ac bl σ.2) (wm g1 g2 g3 g4 g5 g6 g7 aM m1 m2 m3 m4 m5 m6 m7 d n kd ht tk (upd so i (rTwin d (ht i) x σ).2.1) lt sto ni ac bl (rTwin d (ht i) x σ).2.2) (some (.int (rTwin d (ht i) x σ).1)) := by
  refine zM_of "CoastLampsModel" rfl (by decide) (Nat.le_of_ble_eq_true rfl) ?_
  intro p e s m below meth c ls E hP hK hD hS hl
  obtain ⟨hx, hb, hml, ho, hts, hr, hlk⟩ := id E
  have hl : lv_has ls 4 [(0, .ref aM), (1, .int (nI i)), (2, .int x)] := hl
  refine lv_aload_n hx hb d_M_reachTwin_0 rfl (lv_at hl 0 rfl) ?_
  refine lv_bipush (v := 31) hx hb d_M_reachTwin_1 (by decide) ?_
  refine zcV (As := [.int 31]) (rest := []) (ci := 11) E cy_M_begins kw_670 ks_9 kw_668 (c_M_begins l dC dI g1 g2 g3 g4 g5 g6 g7 A aM m1 m2 m3 m4 m5 m6 m7 d n kd ht tk (upd so i σ.1) lt sto ni ac bl σ.2 31) hK hP hD hS 0 rfl zC_M.1 rfl rfl hl.1 rfl (Nat.le_of_ble_eq_true rfl) ⟨Nat.le_of_ble_eq_true rfl, Nat.le_of_ble_eq_true rfl⟩ d_M_reachTwin_3 ⟨Nat.le_refl _, Nat.le_refl _⟩ (fun H locs hP hD hS => ?_)
  have hP : va_P (dC, dI) classes (wm g1 g2 g3 g4 g5 g6 g7 aM m1 m2 m3 m4 m5 m6 m7 d n kd ht tk (upd so i (σ.1, tb 31 σ.2).1) lt sto ni ac bl (σ.1, tb 31 σ.2).2) H := hP
  have hD : va_D A (wm g1 g2 g3 g4 g5 g6 g7 aM m1 m2 m3 m4 m5 m6 m7 d n kd ht tk (upd so i (σ.1, tb 31 σ.2).1) lt sto ni ac bl (σ.1, tb 31 σ.2).2) := hD
  refine lv_aload_n hx hb d_M_reachTwin_6 rfl (lv_at hl 0 rfl) ?_
  refine lv_iload_n hx hb d_M_reachTwin_7 rfl (lv_at hl 1 rfl) ?_
  refine lv_iload_n hx hb d_M_reachTwin_8 rfl (lv_at hl 2 rfl) ?_
  refine zcV (As := [.int (nI i), .int x]) (rest := []) (ci := 11) E cy_M_reachRound kw_702 ks_17 kw_700 (c_M_reachRound l dC dI g1 g2 g3 g4 g5 g6 g7 A aM m1 m2 m3 m4 m5 m6 m7 d n kd ht tk so lt sto ni ac bl i hi (σ.1, tb 31 σ.2) x) hK hP hD hS 0 rfl zC_M.1 rfl rfl hl.1 rfl (Nat.le_of_ble_eq_true rfl) ⟨Nat.le_of_ble_eq_true rfl, Nat.le_of_ble_eq_true rfl⟩ d_M_reachTwin_9 ⟨Nat.le_refl _, Nat.le_refl _⟩ (fun H locs hP hD hS => ?_)
  have hP : va_P (dC, dI) classes (wm g1 g2 g3 g4 g5 g6 g7 aM m1 m2 m3 m4 m5 m6 m7 d n kd ht tk (upd so i ((rRound d (ht i) x (σ.1, tb 31 σ.2)).2).1) lt sto ni ac bl ((rRound d (ht i) x (σ.1, tb 31 σ.2)).2).2) H := hP
  have hD : va_D A (wm g1 g2 g3 g4 g5 g6 g7 aM m1 m2 m3 m4 m5 m6 m7 d n kd ht tk (upd so i ((rRound d (ht i) x (σ.1, tb 31 σ.2)).2).1) lt sto ni ac bl ((rRound d (ht i) x (σ.1, tb 31 σ.2)).2).2) := hD
  refine lv_istore_n (lv' := [(3, .int ((rRound d (ht i) x (σ.1, tb 31 σ.2)).1)), (0, .ref aM), (1, .int (nI i)), (2, .int x)]) hx hb d_M_reachTwin_12 rfl hl (by decide) rfl (fun ls hl => ?_)
  refine lv_iload_n hx hb d_M_reachTwin_13 rfl (lv_at hl 0 rfl) ?_
  refine lv_aload_n hx hb d_M_reachTwin_14 rfl (lv_at hl 1 rfl) ?_
  refine lv_iload_n hx hb d_M_reachTwin_15 rfl (lv_at hl 2 rfl) ?_
  refine lv_iload_n hx hb d_M_reachTwin_16 rfl (lv_at hl 3 rfl) ?_
  refine lv_iconst (v := 1) hx hb d_M_reachTwin_17 (by decide) ?_
  refine lv_iadd hx hb d_M_reachTwin_18 ?_
  refine zcV (As := [.int (nI i), .int (x + 1)]) (rest := [.int ((rRound d (ht i) x (σ.1, tb 31 σ.2)).1)]) (ci := 11) E cy_M_reachRound kw_702 ks_17 kw_700 (c_M_reachRound l dC dI g1 g2 g3 g4 g5 g6 g7 A aM m1 m2 m3 m4 m5 m6 m7 d n kd ht tk so lt sto ni ac bl i hi ((rRound d (ht i) x (σ.1, tb 31 σ.2)).2) (x + 1)) hK hP hD hS 0 rfl zC_M.1 rfl rfl hl.1 rfl (Nat.le_of_ble_eq_true rfl) ⟨Nat.le_of_ble_eq_true rfl, Nat.le_of_ble_eq_true rfl⟩ d_M_reachTwin_19 ⟨Nat.le_refl _, Nat.le_refl _⟩ (fun H locs hP hD hS => ?_)
  have hP : va_P (dC, dI) classes (wm g1 g2 g3 g4 g5 g6 g7 aM m1 m2 m3 m4 m5 m6 m7 d n kd ht tk (upd so i ((rRound d (ht i) (x + 1) ((rRound d (ht i) x (σ.1, tb 31 σ.2)).2)).2).1) lt sto ni ac bl ((rRound d (ht i) (x + 1) ((rRound d (ht i) x (σ.1, tb 31 σ.2)).2)).2).2) H := hP
  have hD : va_D A (wm g1 g2 g3 g4 g5 g6 g7 aM m1 m2 m3 m4 m5 m6 m7 d n kd ht tk (upd so i ((rRound d (ht i) (x + 1) ((rRound d (ht i) x (σ.1, tb 31 σ.2)).2)).2).1) lt sto ni ac bl ((rRound d (ht i) (x + 1) ((rRound d (ht i) x (σ.1, tb 31 σ.2)).2)).2).2) := hD
  refine lv_iconst (v := 2) hx hb d_M_reachTwin_22 (by decide) ?_
  refine lv_idiv hx hb d_M_reachTwin_23 (by decide) ?_
  refine lv_iadd hx hb d_M_reachTwin_24 ?_
  exact zri E hK hP hD hS d_M_reachTwin_25
set_option maxHeartbeats 1000000 in
set_option maxRecDepth 100000 in
theorem c_M_reachDrum (l : Launch) (dC : Nat → ClassId) (dI : Nat → Nat → Nat) (g1 g2 g3 g4 g5 g6 g7 : ClassId) (A : Nat → Prop) (aM m1 m2 m3 m4 m5 m6 m7 : Nat) (d : Nat → Int32) (n : Nat) (kd ht tk so lt : Nat → Int32) (sto : Int64) (ni ac bl : Int32) (i : Nat) (hi : i < 60) (σ : zS) (x : Int32) : zM l y_M_reachDrum b_M_reachDrum 4 (some (FieldType.int)) 4 88 [.ref aM, .int (nI i), .int x] (dC, dI) (t7 g1 g2 g3 g4 g5 g6 g7) A (wm g1 g2 g3 g4 g5 g6 g7 aM m1 m2 m3 m4 m5 m6 m7 d n kd ht tk (upd so i σ.1) lt sto ni ac bl σ.2) (wm g1 g2 g3 g4 g5 g6 g7 aM m1 m2 m3 m4 m5 m6 m7 d n kd ht tk (upd so i (rDrum d (ht i) x σ).2.1) lt sto ni ac bl (rDrum d (ht i) x σ).2.2) (some (.int (rDrum d (ht i) x σ).1)) := by
  by_cases h1 : (rTwin d (ht i) x (σ.1, tb 41 σ.2)).1 < 20
  · have e9 : rDrum d (ht i) x σ = (20, (rTwin d (ht i) x (σ.1, tb 41 σ.2)).2) := by simp only [rDrum, if_pos h1]
    rw [e9]
    try dsimp only
    refine zM_of "CoastLampsModel" rfl (by decide) (Nat.le_of_ble_eq_true rfl) ?_
    intro p e s m below meth c ls E hP hK hD hS hl
    obtain ⟨hx, hb, hml, ho, hts, hr, hlk⟩ := id E
    have hl : lv_has ls 4 [(0, .ref aM), (1, .int (nI i)), (2, .int x)] := hl
    refine lv_aload_n hx hb d_M_reachDrum_0 rfl (lv_at hl 0 rfl) ?_
    refine lv_bipush (v := 41) hx hb d_M_reachDrum_1 (by decide) ?_
    refine zcV (As := [.int 41]) (rest := []) (ci := 11) E cy_M_begins kw_670 ks_9 kw_668 (c_M_begins l dC dI g1 g2 g3 g4 g5 g6 g7 A aM m1 m2 m3 m4 m5 m6 m7 d n kd ht tk (upd so i σ.1) lt sto ni ac bl σ.2 41) hK hP hD hS 0 rfl zC_M.1 rfl rfl hl.1 rfl (Nat.le_of_ble_eq_true rfl) ⟨Nat.le_of_ble_eq_true rfl, Nat.le_of_ble_eq_true rfl⟩ d_M_reachDrum_3 ⟨Nat.le_refl _, Nat.le_refl _⟩ (fun H locs hP hD hS => ?_)
    have hP : va_P (dC, dI) classes (wm g1 g2 g3 g4 g5 g6 g7 aM m1 m2 m3 m4 m5 m6 m7 d n kd ht tk (upd so i (σ.1, tb 41 σ.2).1) lt sto ni ac bl (σ.1, tb 41 σ.2).2) H := hP
    have hD : va_D A (wm g1 g2 g3 g4 g5 g6 g7 aM m1 m2 m3 m4 m5 m6 m7 d n kd ht tk (upd so i (σ.1, tb 41 σ.2).1) lt sto ni ac bl (σ.1, tb 41 σ.2).2) := hD
    refine lv_aload_n hx hb d_M_reachDrum_6 rfl (lv_at hl 0 rfl) ?_
    refine lv_iload_n hx hb d_M_reachDrum_7 rfl (lv_at hl 1 rfl) ?_
    refine lv_iload_n hx hb d_M_reachDrum_8 rfl (lv_at hl 2 rfl) ?_
    refine zcV (As := [.int (nI i), .int x]) (rest := []) (ci := 11) E cy_M_reachTwin kw_706 ks_18 kw_704 (c_M_reachTwin l dC dI g1 g2 g3 g4 g5 g6 g7 A aM m1 m2 m3 m4 m5 m6 m7 d n kd ht tk so lt sto ni ac bl i hi (σ.1, tb 41 σ.2) x) hK hP hD hS 0 rfl zC_M.1 rfl rfl hl.1 rfl (Nat.le_of_ble_eq_true rfl) ⟨Nat.le_of_ble_eq_true rfl, Nat.le_of_ble_eq_true rfl⟩ d_M_reachDrum_9 ⟨Nat.le_refl _, Nat.le_refl _⟩ (fun H locs hP hD hS => ?_)
    have hP : va_P (dC, dI) classes (wm g1 g2 g3 g4 g5 g6 g7 aM m1 m2 m3 m4 m5 m6 m7 d n kd ht tk (upd so i ((rTwin d (ht i) x (σ.1, tb 41 σ.2)).2).1) lt sto ni ac bl ((rTwin d (ht i) x (σ.1, tb 41 σ.2)).2).2) H := hP
    have hD : va_D A (wm g1 g2 g3 g4 g5 g6 g7 aM m1 m2 m3 m4 m5 m6 m7 d n kd ht tk (upd so i ((rTwin d (ht i) x (σ.1, tb 41 σ.2)).2).1) lt sto ni ac bl ((rTwin d (ht i) x (σ.1, tb 41 σ.2)).2).2) := hD
    refine lv_istore_n (lv' := [(3, .int ((rTwin d (ht i) x (σ.1, tb 41 σ.2)).1)), (0, .ref aM), (1, .int (nI i)), (2, .int x)]) hx hb d_M_reachDrum_12 rfl hl (by decide) rfl (fun ls hl => ?_)
    refine lv_iload_n hx hb d_M_reachDrum_13 rfl (lv_at hl 0 rfl) ?_
    refine lv_bipush (v := 20) hx hb d_M_reachDrum_14 (by decide) ?_
    refine lv_icmp_ge (tgt := 24) hx hb d_M_reachDrum_16 (by decide) (fun h9 => absurd h9 (Int32.not_le.mpr h1)) (fun _ => ?_)
    refine lv_bipush (v := 20) hx hb d_M_reachDrum_19 (by decide) ?_
    refine lv_goto (tgt := 25) hx hb d_M_reachDrum_21 (by decide) ?_
    exact zri E hK hP hD hS d_M_reachDrum_25
  · have e9 : rDrum d (ht i) x σ = ((rTwin d (ht i) x (σ.1, tb 41 σ.2)).1, (rTwin d (ht i) x (σ.1, tb 41 σ.2)).2) := by simp only [rDrum, if_neg h1]
    rw [e9]
    try dsimp only
    refine zM_of "CoastLampsModel" rfl (by decide) (Nat.le_of_ble_eq_true rfl) ?_
    intro p e s m below meth c ls E hP hK hD hS hl
    obtain ⟨hx, hb, hml, ho, hts, hr, hlk⟩ := id E
    have hl : lv_has ls 4 [(0, .ref aM), (1, .int (nI i)), (2, .int x)] := hl
    refine lv_aload_n hx hb d_M_reachDrum_0 rfl (lv_at hl 0 rfl) ?_
    refine lv_bipush (v := 41) hx hb d_M_reachDrum_1 (by decide) ?_
    refine zcV (As := [.int 41]) (rest := []) (ci := 11) E cy_M_begins kw_670 ks_9 kw_668 (c_M_begins l dC dI g1 g2 g3 g4 g5 g6 g7 A aM m1 m2 m3 m4 m5 m6 m7 d n kd ht tk (upd so i σ.1) lt sto ni ac bl σ.2 41) hK hP hD hS 0 rfl zC_M.1 rfl rfl hl.1 rfl (Nat.le_of_ble_eq_true rfl) ⟨Nat.le_of_ble_eq_true rfl, Nat.le_of_ble_eq_true rfl⟩ d_M_reachDrum_3 ⟨Nat.le_refl _, Nat.le_refl _⟩ (fun H locs hP hD hS => ?_)
    have hP : va_P (dC, dI) classes (wm g1 g2 g3 g4 g5 g6 g7 aM m1 m2 m3 m4 m5 m6 m7 d n kd ht tk (upd so i (σ.1, tb 41 σ.2).1) lt sto ni ac bl (σ.1, tb 41 σ.2).2) H := hP
    have hD : va_D A (wm g1 g2 g3 g4 g5 g6 g7 aM m1 m2 m3 m4 m5 m6 m7 d n kd ht tk (upd so i (σ.1, tb 41 σ.2).1) lt sto ni ac bl (σ.1, tb 41 σ.2).2) := hD
    refine lv_aload_n hx hb d_M_reachDrum_6 rfl (lv_at hl 0 rfl) ?_
    refine lv_iload_n hx hb d_M_reachDrum_7 rfl (lv_at hl 1 rfl) ?_
    refine lv_iload_n hx hb d_M_reachDrum_8 rfl (lv_at hl 2 rfl) ?_
    refine zcV (As := [.int (nI i), .int x]) (rest := []) (ci := 11) E cy_M_reachTwin kw_706 ks_18 kw_704 (c_M_reachTwin l dC dI g1 g2 g3 g4 g5 g6 g7 A aM m1 m2 m3 m4 m5 m6 m7 d n kd ht tk so lt sto ni ac bl i hi (σ.1, tb 41 σ.2) x) hK hP hD hS 0 rfl zC_M.1 rfl rfl hl.1 rfl (Nat.le_of_ble_eq_true rfl) ⟨Nat.le_of_ble_eq_true rfl, Nat.le_of_ble_eq_true rfl⟩ d_M_reachDrum_9 ⟨Nat.le_refl _, Nat.le_refl _⟩ (fun H locs hP hD hS => ?_)
    have hP : va_P (dC, dI) classes (wm g1 g2 g3 g4 g5 g6 g7 aM m1 m2 m3 m4 m5 m6 m7 d n kd ht tk (upd so i ((rTwin d (ht i) x (σ.1, tb 41 σ.2)).2).1) lt sto ni ac bl ((rTwin d (ht i) x (σ.1, tb 41 σ.2)).2).2) H := hP
    have hD : va_D A (wm g1 g2 g3 g4 g5 g6 g7 aM m1 m2 m3 m4 m5 m6 m7 d n kd ht tk (upd so i ((rTwin d (ht i) x (σ.1, tb 41 σ.2)).2).1) lt sto ni ac bl ((rTwin d (ht i) x (σ.1, tb 41 σ.2)).2).2) := hD
    refine lv_istore_n (lv' := [(3, .int ((rTwin d (ht i) x (σ.1, tb 41 σ.2)).1)), (0, .ref aM), (1, .int (nI i)), (2, .int x)]) hx hb d_M_reachDrum_12 rfl hl (by decide) rfl (fun ls hl => ?_)
    refine lv_iload_n hx hb d_M_reachDrum_13 rfl (lv_at hl 0 rfl) ?_
    refine lv_bipush (v := 20) hx hb d_M_reachDrum_14 (by decide) ?_
    refine lv_icmp_ge (tgt := 24) hx hb d_M_reachDrum_16 (by decide) (fun _ => ?_) (fun h9 => absurd (Int32.not_lt.mp h1) h9)
    refine lv_iload_n hx hb d_M_reachDrum_24 rfl (lv_at hl 0 rfl) ?_
    exact zri E hK hP hD hS d_M_reachDrum_25
set_option maxHeartbeats 1000000 in
set_option maxRecDepth 100000 in
theorem c_M_reachGas (l : Launch) (dC : Nat → ClassId) (dI : Nat → Nat → Nat) (g1 g2 g3 g4 g5 g6 g7 : ClassId) (A : Nat → Prop) (aM m1 m2 m3 m4 m5 m6 m7 : Nat) (d : Nat → Int32) (n : Nat) (kd ht tk so lt : Nat → Int32) (sto : Int64) (ni ac bl : Int32) (i : Nat) (hi : i < 60) (σ : zS) (x : Int32) : zM l y_M_reachGas b_M_reachGas 3 (some (FieldType.int)) 2 43 [.ref aM, .int (nI i), .int x] (dC, dI) (t7 g1 g2 g3 g4 g5 g6 g7) A (wm g1 g2 g3 g4 g5 g6 g7 aM m1 m2 m3 m4 m5 m6 m7 d n kd ht tk (upd so i σ.1) lt sto ni ac bl σ.2) (wm g1 g2 g3 g4 g5 g6 g7 aM m1 m2 m3 m4 m5 m6 m7 d n kd ht tk (upd so i (rGas (ht i) x σ).2.1) lt sto ni ac bl (rGas (ht i) x σ).2.2) (some (.int (rGas (ht i) x σ).1)) := by
  refine zM_of "CoastLampsModel" rfl (by decide) (Nat.le_of_ble_eq_true rfl) ?_
  intro p e s m below meth c ls E hP hK hD hS hl
  obtain ⟨hx, hb, hml, ho, hts, hr, hlk⟩ := id E
  have hl : lv_has ls 3 [(0, .ref aM), (1, .int (nI i)), (2, .int x)] := hl
  refine lv_aload_n hx hb d_M_reachGas_0 rfl (lv_at hl 0 rfl) ?_
  refine lv_bipush (v := 61) hx hb d_M_reachGas_1 (by decide) ?_
  refine zcV (As := [.int 61]) (rest := []) (ci := 11) E cy_M_begins kw_670 ks_9 kw_668 (c_M_begins l dC dI g1 g2 g3 g4 g5 g6 g7 A aM m1 m2 m3 m4 m5 m6 m7 d n kd ht tk (upd so i σ.1) lt sto ni ac bl σ.2 61) hK hP hD hS 0 rfl zC_M.1 rfl rfl hl.1 rfl (Nat.le_of_ble_eq_true rfl) ⟨Nat.le_of_ble_eq_true rfl, Nat.le_of_ble_eq_true rfl⟩ d_M_reachGas_3 ⟨Nat.le_refl _, Nat.le_refl _⟩ (fun H locs hP hD hS => ?_)
  have hP : va_P (dC, dI) classes (wm g1 g2 g3 g4 g5 g6 g7 aM m1 m2 m3 m4 m5 m6 m7 d n kd ht tk (upd so i (σ.1, tb 61 σ.2).1) lt sto ni ac bl (σ.1, tb 61 σ.2).2) H := hP
  have hD : va_D A (wm g1 g2 g3 g4 g5 g6 g7 aM m1 m2 m3 m4 m5 m6 m7 d n kd ht tk (upd so i (σ.1, tb 61 σ.2).1) lt sto ni ac bl (σ.1, tb 61 σ.2).2) := hD
  refine lv_aload_n hx hb d_M_reachGas_6 rfl (lv_at hl 0 rfl) ?_
  refine lv_iload_n hx hb d_M_reachGas_7 rfl (lv_at hl 1 rfl) ?_
  refine lv_iload_n hx hb d_M_reachGas_8 rfl (lv_at hl 2 rfl) ?_
  refine zcV (As := [.int (nI i), .int x]) (rest := []) (ci := 11) E cy_M_reachLamp kw_698 ks_16 kw_696 (c_M_reachLamp l dC dI g1 g2 g3 g4 g5 g6 g7 A aM m1 m2 m3 m4 m5 m6 m7 d n kd ht tk so lt sto ni ac bl i hi (σ.1, tb 61 σ.2) x) hK hP hD hS 0 rfl zC_M.1 rfl rfl hl.1 rfl (Nat.le_of_ble_eq_true rfl) ⟨Nat.le_of_ble_eq_true rfl, Nat.le_of_ble_eq_true rfl⟩ d_M_reachGas_9 ⟨Nat.le_refl _, Nat.le_refl _⟩ (fun H locs hP hD hS => ?_)
  have hP : va_P (dC, dI) classes (wm g1 g2 g3 g4 g5 g6 g7 aM m1 m2 m3 m4 m5 m6 m7 d n kd ht tk (upd so i ((rLamp (ht i) x (σ.1, tb 61 σ.2)).2).1) lt sto ni ac bl ((rLamp (ht i) x (σ.1, tb 61 σ.2)).2).2) H := hP
  have hD : va_D A (wm g1 g2 g3 g4 g5 g6 g7 aM m1 m2 m3 m4 m5 m6 m7 d n kd ht tk (upd so i ((rLamp (ht i) x (σ.1, tb 61 σ.2)).2).1) lt sto ni ac bl ((rLamp (ht i) x (σ.1, tb 61 σ.2)).2).2) := hD
  refine lv_aload_n hx hb d_M_reachGas_12 rfl (lv_at hl 0 rfl) ?_
  refine zget (ci := 11) (fs := [.ref m1, .int (nI n), .ref m2, .ref m3, .ref m4, .ref m5, .ref m6, .long sto, .int ni, .int ac, .int bl, .ref m7, .int (nI (((rLamp (ht i) x (σ.1, tb 61 σ.2)).2).2).2.1)]) E hK hP 0 rfl zC_M 5 (by decide) kw_595 (Or.inl rfl) rfl d_M_reachGas_13 ?_
  refine lv_iload_n hx hb d_M_reachGas_16 rfl (lv_at hl 1 rfl) ?_
  refine va_iald hx hb hK hP 5 4 rfl rfl (vp_in_nI hi (by decide)) d_M_reachGas_17 ?_
  rw [nI_clamp (i31 hi)]
  rw [pk_us]
  refine lv_bipush (v := 10) hx hb d_M_reachGas_18 (by decide) ?_
  refine lv_idiv hx hb d_M_reachGas_20 (by decide) ?_
  refine lv_isub hx hb d_M_reachGas_21 ?_
  exact zri E hK hP hD hS d_M_reachGas_22
set_option maxHeartbeats 1000000 in
set_option maxRecDepth 100000 in
theorem c_M_reachBuoy (l : Launch) (dC : Nat → ClassId) (dI : Nat → Nat → Nat) (g1 g2 g3 g4 g5 g6 g7 : ClassId) (A : Nat → Prop) (aM m1 m2 m3 m4 m5 m6 m7 : Nat) (d : Nat → Int32) (n : Nat) (kd ht tk so lt : Nat → Int32) (sto : Int64) (ni ac bl : Int32) (i : Nat) (hi : i < 60) (σ : zS) (x : Int32) : zM l y_M_reachBuoy b_M_reachBuoy 3 (some (FieldType.int)) 3 65 [.ref aM, .int (nI i), .int x] (dC, dI) (t7 g1 g2 g3 g4 g5 g6 g7) A (wm g1 g2 g3 g4 g5 g6 g7 aM m1 m2 m3 m4 m5 m6 m7 d n kd ht tk (upd so i σ.1) lt sto ni ac bl σ.2) (wm g1 g2 g3 g4 g5 g6 g7 aM m1 m2 m3 m4 m5 m6 m7 d n kd ht tk (upd so i (rBuoy (ht i) x σ).2.1) lt sto ni ac bl (rBuoy (ht i) x σ).2.2) (some (.int (rBuoy (ht i) x σ).1)) := by
  refine zM_of "CoastLampsModel" rfl (by decide) (Nat.le_of_ble_eq_true rfl) ?_
  intro p e s m below meth c ls E hP hK hD hS hl
  obtain ⟨hx, hb, hml, ho, hts, hr, hlk⟩ := id E
  have hl : lv_has ls 3 [(0, .ref aM), (1, .int (nI i)), (2, .int x)] := hl
  refine lv_aload_n hx hb d_M_reachBuoy_0 rfl (lv_at hl 0 rfl) ?_
  refine lv_bipush (v := 81) hx hb d_M_reachBuoy_1 (by decide) ?_
  refine zcV (As := [.int 81]) (rest := []) (ci := 11) E cy_M_begins kw_670 ks_9 kw_668 (c_M_begins l dC dI g1 g2 g3 g4 g5 g6 g7 A aM m1 m2 m3 m4 m5 m6 m7 d n kd ht tk (upd so i σ.1) lt sto ni ac bl σ.2 81) hK hP hD hS 0 rfl zC_M.1 rfl rfl hl.1 rfl (Nat.le_of_ble_eq_true rfl) ⟨Nat.le_of_ble_eq_true rfl, Nat.le_of_ble_eq_true rfl⟩ d_M_reachBuoy_3 ⟨Nat.le_refl _, Nat.le_refl _⟩ (fun H locs hP hD hS => ?_)
  have hP : va_P (dC, dI) classes (wm g1 g2 g3 g4 g5 g6 g7 aM m1 m2 m3 m4 m5 m6 m7 d n kd ht tk (upd so i (σ.1, tb 81 σ.2).1) lt sto ni ac bl (σ.1, tb 81 σ.2).2) H := hP
  have hD : va_D A (wm g1 g2 g3 g4 g5 g6 g7 aM m1 m2 m3 m4 m5 m6 m7 d n kd ht tk (upd so i (σ.1, tb 81 σ.2).1) lt sto ni ac bl (σ.1, tb 81 σ.2).2) := hD
  refine lv_aload_n hx hb d_M_reachBuoy_6 rfl (lv_at hl 0 rfl) ?_
  refine lv_iload_n hx hb d_M_reachBuoy_7 rfl (lv_at hl 1 rfl) ?_
  refine lv_iload_n hx hb d_M_reachBuoy_8 rfl (lv_at hl 2 rfl) ?_
  refine zcV (As := [.int (nI i), .int x]) (rest := []) (ci := 11) E cy_M_reachGas kw_714 ks_20 kw_712 (c_M_reachGas l dC dI g1 g2 g3 g4 g5 g6 g7 A aM m1 m2 m3 m4 m5 m6 m7 d n kd ht tk so lt sto ni ac bl i hi (σ.1, tb 81 σ.2) x) hK hP hD hS 0 rfl zC_M.1 rfl rfl hl.1 rfl (Nat.le_of_ble_eq_true rfl) ⟨Nat.le_of_ble_eq_true rfl, Nat.le_of_ble_eq_true rfl⟩ d_M_reachBuoy_9 ⟨Nat.le_refl _, Nat.le_refl _⟩ (fun H locs hP hD hS => ?_)
  have hP : va_P (dC, dI) classes (wm g1 g2 g3 g4 g5 g6 g7 aM m1 m2 m3 m4 m5 m6 m7 d n kd ht tk (upd so i ((rGas (ht i) x (σ.1, tb 81 σ.2)).2).1) lt sto ni ac bl ((rGas (ht i) x (σ.1, tb 81 σ.2)).2).2) H := hP
  have hD : va_D A (wm g1 g2 g3 g4 g5 g6 g7 aM m1 m2 m3 m4 m5 m6 m7 d n kd ht tk (upd so i ((rGas (ht i) x (σ.1, tb 81 σ.2)).2).1) lt sto ni ac bl ((rGas (ht i) x (σ.1, tb 81 σ.2)).2).2) := hD
  refine lv_iconst (v := 2) hx hb d_M_reachBuoy_12 (by decide) ?_
  refine lv_idiv hx hb d_M_reachBuoy_13 (by decide) ?_
  exact zri E hK hP hD hS d_M_reachBuoy_14
set_option maxHeartbeats 1000000 in
set_option maxRecDepth 100000 in
theorem c_M_flashLamp (l : Launch) (dC : Nat → ClassId) (dI : Nat → Nat → Nat) (g1 g2 g3 g4 g5 g6 g7 : ClassId) (A : Nat → Prop) (aM m1 m2 m3 m4 m5 m6 m7 : Nat) (d : Nat → Int32) (n : Nat) (kd ht tk so lt : Nat → Int32) (sto : Int64) (ni ac bl : Int32) (i : Nat) (hi : i < 60) (σ : zS) : zM l y_M_flashLamp b_M_flashLamp 1 (some (FieldType.int)) 1 21 [.ref aM] (dC, dI) (t7 g1 g2 g3 g4 g5 g6 g7) A (wm g1 g2 g3 g4 g5 g6 g7 aM m1 m2 m3 m4 m5 m6 m7 d n kd ht tk (upd so i σ.1) lt sto ni ac bl σ.2) (wm g1 g2 g3 g4 g5 g6 g7 aM m1 m2 m3 m4 m5 m6 m7 d n kd ht tk (upd so i (fLamp σ).2.1) lt sto ni ac bl (fLamp σ).2.2) (some (.int (fLamp σ).1)) := by
  refine zM_of "CoastLampsModel" rfl (by decide) (Nat.le_of_ble_eq_true rfl) ?_
  intro p e s m below meth c ls E hP hK hD hS hl
  obtain ⟨hx, hb, hml, ho, hts, hr, hlk⟩ := id E
  have hl : lv_has ls 1 [(0, .ref aM)] := hl
  refine lv_aload_n hx hb d_M_flashLamp_0 rfl (lv_at hl 0 rfl) ?_
  refine lv_iconst (v := 2) hx hb d_M_flashLamp_1 (by decide) ?_
  refine zcV (As := [.int 2]) (rest := []) (ci := 11) E cy_M_begins kw_670 ks_9 kw_668 (c_M_begins l dC dI g1 g2 g3 g4 g5 g6 g7 A aM m1 m2 m3 m4 m5 m6 m7 d n kd ht tk (upd so i σ.1) lt sto ni ac bl σ.2 2) hK hP hD hS 0 rfl zC_M.1 rfl rfl hl.1 rfl (Nat.le_of_ble_eq_true rfl) ⟨Nat.le_of_ble_eq_true rfl, Nat.le_of_ble_eq_true rfl⟩ d_M_flashLamp_2 ⟨Nat.le_refl _, Nat.le_refl _⟩ (fun H locs hP hD hS => ?_)
  have hP : va_P (dC, dI) classes (wm g1 g2 g3 g4 g5 g6 g7 aM m1 m2 m3 m4 m5 m6 m7 d n kd ht tk (upd so i (σ.1, tb 2 σ.2).1) lt sto ni ac bl (σ.1, tb 2 σ.2).2) H := hP
  have hD : va_D A (wm g1 g2 g3 g4 g5 g6 g7 aM m1 m2 m3 m4 m5 m6 m7 d n kd ht tk (upd so i (σ.1, tb 2 σ.2).1) lt sto ni ac bl (σ.1, tb 2 σ.2).2) := hD
  refine lv_bipush (v := 100) hx hb d_M_flashLamp_5 (by decide) ?_
  exact zri E hK hP hD hS d_M_flashLamp_7
set_option maxHeartbeats 1000000 in
set_option maxRecDepth 100000 in
theorem c_M_flashTwin (l : Launch) (dC : Nat → ClassId) (dI : Nat → Nat → Nat) (g1 g2 g3 g4 g5 g6 g7 : ClassId) (A : Nat → Prop) (aM m1 m2 m3 m4 m5 m6 m7 : Nat) (d : Nat → Int32) (n : Nat) (kd ht tk so lt : Nat → Int32) (sto : Int64) (ni ac bl : Int32) (i : Nat) (hi : i < 60) (σ : zS) (x : Int32) : zM l y_M_flashTwin b_M_flashTwin 2 (some (FieldType.int)) 2 41 [.ref aM, .int x] (dC, dI) (t7 g1 g2 g3 g4 g5 g6 g7) A (wm g1 g2 g3 g4 g5 g6 g7 aM m1 m2 m3 m4 m5 m6 m7 d n kd ht tk (upd so i σ.1) lt sto ni ac bl σ.2) (wm g1 g2 g3 g4 g5 g6 g7 aM m1 m2 m3 m4 m5 m6 m7 d n kd ht tk (upd so i (fTwin x σ).2.1) lt sto ni ac bl (fTwin x σ).2.2) (some (.int (fTwin x σ).1)) := by
  by_cases h1 : x &&& 3 = 0
  · have e9 : fTwin x σ = (0, (σ.1, tb 32 σ.2)) := by simp only [fTwin, if_pos h1]
    rw [e9]
    try dsimp only
    refine zM_of "CoastLampsModel" rfl (by decide) (Nat.le_of_ble_eq_true rfl) ?_
    intro p e s m below meth c ls E hP hK hD hS hl
    obtain ⟨hx, hb, hml, ho, hts, hr, hlk⟩ := id E
    have hl : lv_has ls 2 [(0, .ref aM), (1, .int x)] := hl
    refine lv_aload_n hx hb d_M_flashTwin_0 rfl (lv_at hl 0 rfl) ?_
    refine lv_bipush (v := 32) hx hb d_M_flashTwin_1 (by decide) ?_
    refine zcV (As := [.int 32]) (rest := []) (ci := 11) E cy_M_begins kw_670 ks_9 kw_668 (c_M_begins l dC dI g1 g2 g3 g4 g5 g6 g7 A aM m1 m2 m3 m4 m5 m6 m7 d n kd ht tk (upd so i σ.1) lt sto ni ac bl σ.2 32) hK hP hD hS 0 rfl zC_M.1 rfl rfl hl.1 rfl (Nat.le_of_ble_eq_true rfl) ⟨Nat.le_of_ble_eq_true rfl, Nat.le_of_ble_eq_true rfl⟩ d_M_flashTwin_3 ⟨Nat.le_refl _, Nat.le_refl _⟩ (fun H locs hP hD hS => ?_)
    have hP : va_P (dC, dI) classes (wm g1 g2 g3 g4 g5 g6 g7 aM m1 m2 m3 m4 m5 m6 m7 d n kd ht tk (upd so i (σ.1, tb 32 σ.2).1) lt sto ni ac bl (σ.1, tb 32 σ.2).2) H := hP
    have hD : va_D A (wm g1 g2 g3 g4 g5 g6 g7 aM m1 m2 m3 m4 m5 m6 m7 d n kd ht tk (upd so i (σ.1, tb 32 σ.2).1) lt sto ni ac bl (σ.1, tb 32 σ.2).2) := hD
    refine lv_iload_n hx hb d_M_flashTwin_6 rfl (lv_at hl 1 rfl) ?_
    refine lv_iconst (v := 3) hx hb d_M_flashTwin_7 (by decide) ?_
    refine lv_iand hx hb d_M_flashTwin_8 ?_
    refine lv_if_ne (tgt := 16) hx hb d_M_flashTwin_9 (by decide) (fun h9 => absurd (h1) h9) (fun _ => ?_)
    refine lv_iconst (v := 0) hx hb d_M_flashTwin_12 (by decide) ?_
    refine lv_goto (tgt := 20) hx hb d_M_flashTwin_13 (by decide) ?_
    exact zri E hK hP hD hS d_M_flashTwin_20
  · have e9 : fTwin x σ = fLamp (σ.1, tb 32 σ.2) := by simp only [fTwin, if_neg h1]
    rw [e9]
    try dsimp only
    refine zM_of "CoastLampsModel" rfl (by decide) (Nat.le_of_ble_eq_true rfl) ?_
    intro p e s m below meth c ls E hP hK hD hS hl
    obtain ⟨hx, hb, hml, ho, hts, hr, hlk⟩ := id E
    have hl : lv_has ls 2 [(0, .ref aM), (1, .int x)] := hl
    refine lv_aload_n hx hb d_M_flashTwin_0 rfl (lv_at hl 0 rfl) ?_
    refine lv_bipush (v := 32) hx hb d_M_flashTwin_1 (by decide) ?_
    refine zcV (As := [.int 32]) (rest := []) (ci := 11) E cy_M_begins kw_670 ks_9 kw_668 (c_M_begins l dC dI g1 g2 g3 g4 g5 g6 g7 A aM m1 m2 m3 m4 m5 m6 m7 d n kd ht tk (upd so i σ.1) lt sto ni ac bl σ.2 32) hK hP hD hS 0 rfl zC_M.1 rfl rfl hl.1 rfl (Nat.le_of_ble_eq_true rfl) ⟨Nat.le_of_ble_eq_true rfl, Nat.le_of_ble_eq_true rfl⟩ d_M_flashTwin_3 ⟨Nat.le_refl _, Nat.le_refl _⟩ (fun H locs hP hD hS => ?_)
    have hP : va_P (dC, dI) classes (wm g1 g2 g3 g4 g5 g6 g7 aM m1 m2 m3 m4 m5 m6 m7 d n kd ht tk (upd so i (σ.1, tb 32 σ.2).1) lt sto ni ac bl (σ.1, tb 32 σ.2).2) H := hP
    have hD : va_D A (wm g1 g2 g3 g4 g5 g6 g7 aM m1 m2 m3 m4 m5 m6 m7 d n kd ht tk (upd so i (σ.1, tb 32 σ.2).1) lt sto ni ac bl (σ.1, tb 32 σ.2).2) := hD
    refine lv_iload_n hx hb d_M_flashTwin_6 rfl (lv_at hl 1 rfl) ?_
    refine lv_iconst (v := 3) hx hb d_M_flashTwin_7 (by decide) ?_
    refine lv_iand hx hb d_M_flashTwin_8 ?_
    refine lv_if_ne (tgt := 16) hx hb d_M_flashTwin_9 (by decide) (fun _ => ?_) (fun h9 => absurd h9 (h1))
    refine lv_aload_n hx hb d_M_flashTwin_16 rfl (lv_at hl 0 rfl) ?_
    refine zcV (As := []) (rest := []) (ci := 11) E cy_M_flashLamp kw_730 ks_24 kw_728 (c_M_flashLamp l dC dI g1 g2 g3 g4 g5 g6 g7 A aM m1 m2 m3 m4 m5 m6 m7 d n kd ht tk so lt sto ni ac bl i hi (σ.1, tb 32 σ.2)) hK hP hD hS 0 rfl zC_M.1 rfl rfl hl.1 rfl (Nat.le_of_ble_eq_true rfl) ⟨Nat.le_of_ble_eq_true rfl, Nat.le_of_ble_eq_true rfl⟩ d_M_flashTwin_17 ⟨Nat.le_refl _, Nat.le_refl _⟩ (fun H locs hP hD hS => ?_)
    have hP : va_P (dC, dI) classes (wm g1 g2 g3 g4 g5 g6 g7 aM m1 m2 m3 m4 m5 m6 m7 d n kd ht tk (upd so i ((fLamp (σ.1, tb 32 σ.2)).2).1) lt sto ni ac bl ((fLamp (σ.1, tb 32 σ.2)).2).2) H := hP
    have hD : va_D A (wm g1 g2 g3 g4 g5 g6 g7 aM m1 m2 m3 m4 m5 m6 m7 d n kd ht tk (upd so i ((fLamp (σ.1, tb 32 σ.2)).2).1) lt sto ni ac bl ((fLamp (σ.1, tb 32 σ.2)).2).2) := hD
    exact zri E hK hP hD hS d_M_flashTwin_20
set_option maxHeartbeats 1000000 in
set_option maxRecDepth 100000 in
theorem c_M_flashSwing (l : Launch) (dC : Nat → ClassId) (dI : Nat → Nat → Nat) (g1 g2 g3 g4 g5 g6 g7 : ClassId) (A : Nat → Prop) (aM m1 m2 m3 m4 m5 m6 m7 : Nat) (d : Nat → Int32) (n : Nat) (kd ht tk so lt : Nat → Int32) (sto : Int64) (ni ac bl : Int32) (i : Nat) (hi : i < 60) (σ : zS) (x : Int32) : zM l y_M_flashSwing b_M_flashSwing 2 (some (FieldType.int)) 3 62 [.ref aM, .int x] (dC, dI) (t7 g1 g2 g3 g4 g5 g6 g7) A (wm g1 g2 g3 g4 g5 g6 g7 aM m1 m2 m3 m4 m5 m6 m7 d n kd ht tk (upd so i σ.1) lt sto ni ac bl σ.2) (wm g1 g2 g3 g4 g5 g6 g7 aM m1 m2 m3 m4 m5 m6 m7 d n kd ht tk (upd so i (fSwing x σ).2.1) lt sto ni ac bl (fSwing x σ).2.2) (some (.int (fSwing x σ).1)) := by
  refine zM_of "CoastLampsModel" rfl (by decide) (Nat.le_of_ble_eq_true rfl) ?_
  intro p e s m below meth c ls E hP hK hD hS hl
  obtain ⟨hx, hb, hml, ho, hts, hr, hlk⟩ := id E
  have hl : lv_has ls 2 [(0, .ref aM), (1, .int x)] := hl
  refine lv_aload_n hx hb d_M_flashSwing_0 rfl (lv_at hl 0 rfl) ?_
  refine lv_bipush (v := 52) hx hb d_M_flashSwing_1 (by decide) ?_
  refine zcV (As := [.int 52]) (rest := []) (ci := 11) E cy_M_begins kw_670 ks_9 kw_668 (c_M_begins l dC dI g1 g2 g3 g4 g5 g6 g7 A aM m1 m2 m3 m4 m5 m6 m7 d n kd ht tk (upd so i σ.1) lt sto ni ac bl σ.2 52) hK hP hD hS 0 rfl zC_M.1 rfl rfl hl.1 rfl (Nat.le_of_ble_eq_true rfl) ⟨Nat.le_of_ble_eq_true rfl, Nat.le_of_ble_eq_true rfl⟩ d_M_flashSwing_3 ⟨Nat.le_refl _, Nat.le_refl _⟩ (fun H locs hP hD hS => ?_)
  have hP : va_P (dC, dI) classes (wm g1 g2 g3 g4 g5 g6 g7 aM m1 m2 m3 m4 m5 m6 m7 d n kd ht tk (upd so i (σ.1, tb 52 σ.2).1) lt sto ni ac bl (σ.1, tb 52 σ.2).2) H := hP
  have hD : va_D A (wm g1 g2 g3 g4 g5 g6 g7 aM m1 m2 m3 m4 m5 m6 m7 d n kd ht tk (upd so i (σ.1, tb 52 σ.2).1) lt sto ni ac bl (σ.1, tb 52 σ.2).2) := hD
  refine lv_aload_n hx hb d_M_flashSwing_6 rfl (lv_at hl 0 rfl) ?_
  refine lv_iload_n hx hb d_M_flashSwing_7 rfl (lv_at hl 1 rfl) ?_
  refine lv_iconst (v := 3) hx hb d_M_flashSwing_8 (by decide) ?_
  refine lv_idiv hx hb d_M_flashSwing_9 (by decide) ?_
  refine zcV (As := [.int (x / 3)]) (rest := []) (ci := 11) E cy_M_flashTwin kw_726 ks_23 kw_724 (c_M_flashTwin l dC dI g1 g2 g3 g4 g5 g6 g7 A aM m1 m2 m3 m4 m5 m6 m7 d n kd ht tk so lt sto ni ac bl i hi (σ.1, tb 52 σ.2) (x / 3)) hK hP hD hS 0 rfl zC_M.1 rfl rfl hl.1 rfl (Nat.le_of_ble_eq_true rfl) ⟨Nat.le_of_ble_eq_true rfl, Nat.le_of_ble_eq_true rfl⟩ d_M_flashSwing_10 ⟨Nat.le_refl _, Nat.le_refl _⟩ (fun H locs hP hD hS => ?_)
  have hP : va_P (dC, dI) classes (wm g1 g2 g3 g4 g5 g6 g7 aM m1 m2 m3 m4 m5 m6 m7 d n kd ht tk (upd so i ((fTwin (x / 3) (σ.1, tb 52 σ.2)).2).1) lt sto ni ac bl ((fTwin (x / 3) (σ.1, tb 52 σ.2)).2).2) H := hP
  have hD : va_D A (wm g1 g2 g3 g4 g5 g6 g7 aM m1 m2 m3 m4 m5 m6 m7 d n kd ht tk (upd so i ((fTwin (x / 3) (σ.1, tb 52 σ.2)).2).1) lt sto ni ac bl ((fTwin (x / 3) (σ.1, tb 52 σ.2)).2).2) := hD
  exact zri E hK hP hD hS d_M_flashSwing_13
set_option maxHeartbeats 1000000 in
set_option maxRecDepth 100000 in
theorem c_M_flashFlare (l : Launch) (dC : Nat → ClassId) (dI : Nat → Nat → Nat) (g1 g2 g3 g4 g5 g6 g7 : ClassId) (A : Nat → Prop) (aM m1 m2 m3 m4 m5 m6 m7 : Nat) (d : Nat → Int32) (n : Nat) (kd ht tk so lt : Nat → Int32) (sto : Int64) (ni ac bl : Int32) (i : Nat) (hi : i < 60) (σ : zS) (x : Int32) : zM l y_M_flashFlare b_M_flashFlare 2 (some (FieldType.int)) 2 41 [.ref aM, .int x] (dC, dI) (t7 g1 g2 g3 g4 g5 g6 g7) A (wm g1 g2 g3 g4 g5 g6 g7 aM m1 m2 m3 m4 m5 m6 m7 d n kd ht tk (upd so i σ.1) lt sto ni ac bl σ.2) (wm g1 g2 g3 g4 g5 g6 g7 aM m1 m2 m3 m4 m5 m6 m7 d n kd ht tk (upd so i (fFlare x σ).2.1) lt sto ni ac bl (fFlare x σ).2.2) (some (.int (fFlare x σ).1)) := by
  by_cases h1 : x &&& 1 = 0
  · have e9 : fFlare x σ = fLamp (σ.1, tb 72 σ.2) := by simp only [fFlare, if_pos h1]
    rw [e9]
    try dsimp only
    refine zM_of "CoastLampsModel" rfl (by decide) (Nat.le_of_ble_eq_true rfl) ?_
    intro p e s m below meth c ls E hP hK hD hS hl
    obtain ⟨hx, hb, hml, ho, hts, hr, hlk⟩ := id E
    have hl : lv_has ls 2 [(0, .ref aM), (1, .int x)] := hl
    refine lv_aload_n hx hb d_M_flashFlare_0 rfl (lv_at hl 0 rfl) ?_
    refine lv_bipush (v := 72) hx hb d_M_flashFlare_1 (by decide) ?_
    refine zcV (As := [.int 72]) (rest := []) (ci := 11) E cy_M_begins kw_670 ks_9 kw_668 (c_M_begins l dC dI g1 g2 g3 g4 g5 g6 g7 A aM m1 m2 m3 m4 m5 m6 m7 d n kd ht tk (upd so i σ.1) lt sto ni ac bl σ.2 72) hK hP hD hS 0 rfl zC_M.1 rfl rfl hl.1 rfl (Nat.le_of_ble_eq_true rfl) ⟨Nat.le_of_ble_eq_true rfl, Nat.le_of_ble_eq_true rfl⟩ d_M_flashFlare_3 ⟨Nat.le_refl _, Nat.le_refl _⟩ (fun H locs hP hD hS => ?_)
    have hP : va_P (dC, dI) classes (wm g1 g2 g3 g4 g5 g6 g7 aM m1 m2 m3 m4 m5 m6 m7 d n kd ht tk (upd so i (σ.1, tb 72 σ.2).1) lt sto ni ac bl (σ.1, tb 72 σ.2).2) H := hP
    have hD : va_D A (wm g1 g2 g3 g4 g5 g6 g7 aM m1 m2 m3 m4 m5 m6 m7 d n kd ht tk (upd so i (σ.1, tb 72 σ.2).1) lt sto ni ac bl (σ.1, tb 72 σ.2).2) := hD
    refine lv_iload_n hx hb d_M_flashFlare_6 rfl (lv_at hl 1 rfl) ?_
    refine lv_iconst (v := 1) hx hb d_M_flashFlare_7 (by decide) ?_
    refine lv_iand hx hb d_M_flashFlare_8 ?_
    refine lv_if_ne (tgt := 19) hx hb d_M_flashFlare_9 (by decide) (fun h9 => absurd (h1) h9) (fun _ => ?_)
    refine lv_aload_n hx hb d_M_flashFlare_12 rfl (lv_at hl 0 rfl) ?_
    refine zcV (As := []) (rest := []) (ci := 11) E cy_M_flashLamp kw_730 ks_24 kw_728 (c_M_flashLamp l dC dI g1 g2 g3 g4 g5 g6 g7 A aM m1 m2 m3 m4 m5 m6 m7 d n kd ht tk so lt sto ni ac bl i hi (σ.1, tb 72 σ.2)) hK hP hD hS 0 rfl zC_M.1 rfl rfl hl.1 rfl (Nat.le_of_ble_eq_true rfl) ⟨Nat.le_of_ble_eq_true rfl, Nat.le_of_ble_eq_true rfl⟩ d_M_flashFlare_13 ⟨Nat.le_refl _, Nat.le_refl _⟩ (fun H locs hP hD hS => ?_)
    have hP : va_P (dC, dI) classes (wm g1 g2 g3 g4 g5 g6 g7 aM m1 m2 m3 m4 m5 m6 m7 d n kd ht tk (upd so i ((fLamp (σ.1, tb 72 σ.2)).2).1) lt sto ni ac bl ((fLamp (σ.1, tb 72 σ.2)).2).2) H := hP
    have hD : va_D A (wm g1 g2 g3 g4 g5 g6 g7 aM m1 m2 m3 m4 m5 m6 m7 d n kd ht tk (upd so i ((fLamp (σ.1, tb 72 σ.2)).2).1) lt sto ni ac bl ((fLamp (σ.1, tb 72 σ.2)).2).2) := hD
    refine lv_goto (tgt := 20) hx hb d_M_flashFlare_16 (by decide) ?_
    exact zri E hK hP hD hS d_M_flashFlare_20
  · have e9 : fFlare x σ = (0, (σ.1, tb 72 σ.2)) := by simp only [fFlare, if_neg h1]
    rw [e9]
    try dsimp only
    refine zM_of "CoastLampsModel" rfl (by decide) (Nat.le_of_ble_eq_true rfl) ?_
    intro p e s m below meth c ls E hP hK hD hS hl
    obtain ⟨hx, hb, hml, ho, hts, hr, hlk⟩ := id E
    have hl : lv_has ls 2 [(0, .ref aM), (1, .int x)] := hl
    refine lv_aload_n hx hb d_M_flashFlare_0 rfl (lv_at hl 0 rfl) ?_
    refine lv_bipush (v := 72) hx hb d_M_flashFlare_1 (by decide) ?_
    refine zcV (As := [.int 72]) (rest := []) (ci := 11) E cy_M_begins kw_670 ks_9 kw_668 (c_M_begins l dC dI g1 g2 g3 g4 g5 g6 g7 A aM m1 m2 m3 m4 m5 m6 m7 d n kd ht tk (upd so i σ.1) lt sto ni ac bl σ.2 72) hK hP hD hS 0 rfl zC_M.1 rfl rfl hl.1 rfl (Nat.le_of_ble_eq_true rfl) ⟨Nat.le_of_ble_eq_true rfl, Nat.le_of_ble_eq_true rfl⟩ d_M_flashFlare_3 ⟨Nat.le_refl _, Nat.le_refl _⟩ (fun H locs hP hD hS => ?_)
    have hP : va_P (dC, dI) classes (wm g1 g2 g3 g4 g5 g6 g7 aM m1 m2 m3 m4 m5 m6 m7 d n kd ht tk (upd so i (σ.1, tb 72 σ.2).1) lt sto ni ac bl (σ.1, tb 72 σ.2).2) H := hP
    have hD : va_D A (wm g1 g2 g3 g4 g5 g6 g7 aM m1 m2 m3 m4 m5 m6 m7 d n kd ht tk (upd so i (σ.1, tb 72 σ.2).1) lt sto ni ac bl (σ.1, tb 72 σ.2).2) := hD
    refine lv_iload_n hx hb d_M_flashFlare_6 rfl (lv_at hl 1 rfl) ?_
    refine lv_iconst (v := 1) hx hb d_M_flashFlare_7 (by decide) ?_
    refine lv_iand hx hb d_M_flashFlare_8 ?_
    refine lv_if_ne (tgt := 19) hx hb d_M_flashFlare_9 (by decide) (fun _ => ?_) (fun h9 => absurd h9 (h1))
    refine lv_iconst (v := 0) hx hb d_M_flashFlare_19 (by decide) ?_
    exact zri E hK hP hD hS d_M_flashFlare_20
set_option maxHeartbeats 1000000 in
set_option maxRecDepth 100000 in
theorem c_M_flashOuter (l : Launch) (dC : Nat → ClassId) (dI : Nat → Nat → Nat) (g1 g2 g3 g4 g5 g6 g7 : ClassId) (A : Nat → Prop) (aM m1 m2 m3 m4 m5 m6 m7 : Nat) (d : Nat → Int32) (n : Nat) (kd ht tk so lt : Nat → Int32) (sto : Int64) (ni ac bl : Int32) (i : Nat) (hi : i < 60) (σ : zS) (x : Int32) : zM l y_M_flashOuter b_M_flashOuter 3 (some (FieldType.int)) 3 62 [.ref aM, .int x] (dC, dI) (t7 g1 g2 g3 g4 g5 g6 g7) A (wm g1 g2 g3 g4 g5 g6 g7 aM m1 m2 m3 m4 m5 m6 m7 d n kd ht tk (upd so i σ.1) lt sto ni ac bl σ.2) (wm g1 g2 g3 g4 g5 g6 g7 aM m1 m2 m3 m4 m5 m6 m7 d n kd ht tk (upd so i (fOuter x σ).2.1) lt sto ni ac bl (fOuter x σ).2.2) (some (.int (fOuter x σ).1)) := by
  refine zM_of "CoastLampsModel" rfl (by decide) (Nat.le_of_ble_eq_true rfl) ?_
  intro p e s m below meth c ls E hP hK hD hS hl
  obtain ⟨hx, hb, hml, ho, hts, hr, hlk⟩ := id E
  have hl : lv_has ls 3 [(0, .ref aM), (1, .int x)] := hl
  refine lv_aload_n hx hb d_M_flashOuter_0 rfl (lv_at hl 0 rfl) ?_
  refine lv_bipush (v := 92) hx hb d_M_flashOuter_1 (by decide) ?_
  refine zcV (As := [.int 92]) (rest := []) (ci := 11) E cy_M_begins kw_670 ks_9 kw_668 (c_M_begins l dC dI g1 g2 g3 g4 g5 g6 g7 A aM m1 m2 m3 m4 m5 m6 m7 d n kd ht tk (upd so i σ.1) lt sto ni ac bl σ.2 92) hK hP hD hS 0 rfl zC_M.1 rfl rfl hl.1 rfl (Nat.le_of_ble_eq_true rfl) ⟨Nat.le_of_ble_eq_true rfl, Nat.le_of_ble_eq_true rfl⟩ d_M_flashOuter_3 ⟨Nat.le_refl _, Nat.le_refl _⟩ (fun H locs hP hD hS => ?_)
  have hP : va_P (dC, dI) classes (wm g1 g2 g3 g4 g5 g6 g7 aM m1 m2 m3 m4 m5 m6 m7 d n kd ht tk (upd so i (σ.1, tb 92 σ.2).1) lt sto ni ac bl (σ.1, tb 92 σ.2).2) H := hP
  have hD : va_D A (wm g1 g2 g3 g4 g5 g6 g7 aM m1 m2 m3 m4 m5 m6 m7 d n kd ht tk (upd so i (σ.1, tb 92 σ.2).1) lt sto ni ac bl (σ.1, tb 92 σ.2).2) := hD
  refine lv_aload_n hx hb d_M_flashOuter_6 rfl (lv_at hl 0 rfl) ?_
  refine lv_iload_n hx hb d_M_flashOuter_7 rfl (lv_at hl 1 rfl) ?_
  refine zcV (As := [.int x]) (rest := []) (ci := 11) E cy_M_flashFlare kw_738 ks_26 kw_736 (c_M_flashFlare l dC dI g1 g2 g3 g4 g5 g6 g7 A aM m1 m2 m3 m4 m5 m6 m7 d n kd ht tk so lt sto ni ac bl i hi (σ.1, tb 92 σ.2) x) hK hP hD hS 0 rfl zC_M.1 rfl rfl hl.1 rfl (Nat.le_of_ble_eq_true rfl) ⟨Nat.le_of_ble_eq_true rfl, Nat.le_of_ble_eq_true rfl⟩ d_M_flashOuter_8 ⟨Nat.le_refl _, Nat.le_refl _⟩ (fun H locs hP hD hS => ?_)
  have hP : va_P (dC, dI) classes (wm g1 g2 g3 g4 g5 g6 g7 aM m1 m2 m3 m4 m5 m6 m7 d n kd ht tk (upd so i ((fFlare x (σ.1, tb 92 σ.2)).2).1) lt sto ni ac bl ((fFlare x (σ.1, tb 92 σ.2)).2).2) H := hP
  have hD : va_D A (wm g1 g2 g3 g4 g5 g6 g7 aM m1 m2 m3 m4 m5 m6 m7 d n kd ht tk (upd so i ((fFlare x (σ.1, tb 92 σ.2)).2).1) lt sto ni ac bl ((fFlare x (σ.1, tb 92 σ.2)).2).2) := hD
  refine lv_istore_n (lv' := [(2, .int ((fFlare x (σ.1, tb 92 σ.2)).1)), (0, .ref aM), (1, .int x)]) hx hb d_M_flashOuter_11 rfl hl (by decide) rfl (fun ls hl => ?_)
  refine lv_iload_n hx hb d_M_flashOuter_12 rfl (lv_at hl 0 rfl) ?_
  refine lv_aload_n hx hb d_M_flashOuter_13 rfl (lv_at hl 1 rfl) ?_
  refine lv_iload_n hx hb d_M_flashOuter_14 rfl (lv_at hl 2 rfl) ?_
  refine lv_iconst (v := 1) hx hb d_M_flashOuter_15 (by decide) ?_
  refine lv_iadd hx hb d_M_flashOuter_16 ?_
  refine zcV (As := [.int (x + 1)]) (rest := [.int ((fFlare x (σ.1, tb 92 σ.2)).1)]) (ci := 11) E cy_M_flashFlare kw_738 ks_26 kw_736 (c_M_flashFlare l dC dI g1 g2 g3 g4 g5 g6 g7 A aM m1 m2 m3 m4 m5 m6 m7 d n kd ht tk so lt sto ni ac bl i hi ((fFlare x (σ.1, tb 92 σ.2)).2) (x + 1)) hK hP hD hS 0 rfl zC_M.1 rfl rfl hl.1 rfl (Nat.le_of_ble_eq_true rfl) ⟨Nat.le_of_ble_eq_true rfl, Nat.le_of_ble_eq_true rfl⟩ d_M_flashOuter_17 ⟨Nat.le_refl _, Nat.le_refl _⟩ (fun H locs hP hD hS => ?_)
  have hP : va_P (dC, dI) classes (wm g1 g2 g3 g4 g5 g6 g7 aM m1 m2 m3 m4 m5 m6 m7 d n kd ht tk (upd so i ((fFlare (x + 1) ((fFlare x (σ.1, tb 92 σ.2)).2)).2).1) lt sto ni ac bl ((fFlare (x + 1) ((fFlare x (σ.1, tb 92 σ.2)).2)).2).2) H := hP
  have hD : va_D A (wm g1 g2 g3 g4 g5 g6 g7 aM m1 m2 m3 m4 m5 m6 m7 d n kd ht tk (upd so i ((fFlare (x + 1) ((fFlare x (σ.1, tb 92 σ.2)).2)).2).1) lt sto ni ac bl ((fFlare (x + 1) ((fFlare x (σ.1, tb 92 σ.2)).2)).2).2) := hD
  refine lv_iadd hx hb d_M_flashOuter_20 ?_
  exact zri E hK hP hD hS d_M_flashOuter_21
set_option maxHeartbeats 1000000 in
set_option maxRecDepth 100000 in
theorem c_M_tendLamp (l : Launch) (dC : Nat → ClassId) (dI : Nat → Nat → Nat) (g1 g2 g3 g4 g5 g6 g7 : ClassId) (A : Nat → Prop) (aM m1 m2 m3 m4 m5 m6 m7 : Nat) (d : Nat → Int32) (n : Nat) (kd ht tk so lt : Nat → Int32) (sto : Int64) (ni ac bl : Int32) (i : Nat) (hi : i < 60) (σ : zS) (x : Int32) : zM l y_M_tendLamp b_M_tendLamp 4 (some (FieldType.int)) 1 21 [.ref aM, .int (nI i), .int x] (dC, dI) (t7 g1 g2 g3 g4 g5 g6 g7) A (wm g1 g2 g3 g4 g5 g6 g7 aM m1 m2 m3 m4 m5 m6 m7 d n kd ht tk (upd so i σ.1) lt sto ni ac bl σ.2) (wm g1 g2 g3 g4 g5 g6 g7 aM m1 m2 m3 m4 m5 m6 m7 d n kd ht tk (upd so i (tLamp x σ).2.1) lt sto ni ac bl (tLamp x σ).2.2) (some (.int (tLamp x σ).1)) := by
  by_cases h1 : σ.1 - x < 0
  · have e9 : tLamp x σ = (0, (0, tb 3 σ.2)) := by simp only [tLamp, if_pos h1]
    rw [e9]
    try dsimp only
    refine zM_of "CoastLampsModel" rfl (by decide) (Nat.le_of_ble_eq_true rfl) ?_
    intro p e s m below meth c ls E hP hK hD hS hl
    obtain ⟨hx, hb, hml, ho, hts, hr, hlk⟩ := id E
    have hl : lv_has ls 4 [(0, .ref aM), (1, .int (nI i)), (2, .int x)] := hl
    refine lv_aload_n hx hb d_M_tendLamp_0 rfl (lv_at hl 0 rfl) ?_
    refine lv_iconst (v := 3) hx hb d_M_tendLamp_1 (by decide) ?_
    refine zcV (As := [.int 3]) (rest := []) (ci := 11) E cy_M_begins kw_670 ks_9 kw_668 (c_M_begins l dC dI g1 g2 g3 g4 g5 g6 g7 A aM m1 m2 m3 m4 m5 m6 m7 d n kd ht tk (upd so i σ.1) lt sto ni ac bl σ.2 3) hK hP hD hS 0 rfl zC_M.1 rfl rfl hl.1 rfl (Nat.le_of_ble_eq_true rfl) ⟨Nat.le_of_ble_eq_true rfl, Nat.le_of_ble_eq_true rfl⟩ d_M_tendLamp_2 ⟨Nat.le_refl _, Nat.le_refl _⟩ (fun H locs hP hD hS => ?_)
    have hP : va_P (dC, dI) classes (wm g1 g2 g3 g4 g5 g6 g7 aM m1 m2 m3 m4 m5 m6 m7 d n kd ht tk (upd so i (σ.1, tb 3 σ.2).1) lt sto ni ac bl (σ.1, tb 3 σ.2).2) H := hP
    have hD : va_D A (wm g1 g2 g3 g4 g5 g6 g7 aM m1 m2 m3 m4 m5 m6 m7 d n kd ht tk (upd so i (σ.1, tb 3 σ.2).1) lt sto ni ac bl (σ.1, tb 3 σ.2).2) := hD
    refine lv_aload_n hx hb d_M_tendLamp_5 rfl (lv_at hl 0 rfl) ?_
    refine zget (ci := 11) (fs := [.ref m1, .int (nI n), .ref m2, .ref m3, .ref m4, .ref m5, .ref m6, .long sto, .int ni, .int ac, .int bl, .ref m7, .int (nI (tb 3 σ.2).2.1)]) E hK hP 0 rfl zC_M 5 (by decide) kw_595 (Or.inl rfl) rfl d_M_tendLamp_6 ?_
    refine lv_iload_n hx hb d_M_tendLamp_9 rfl (lv_at hl 1 rfl) ?_
    refine va_iald hx hb hK hP 5 4 rfl rfl (vp_in_nI hi (by decide)) d_M_tendLamp_10 ?_
    rw [nI_clamp (i31 hi)]
    rw [pk_us]
    refine lv_iload_n hx hb d_M_tendLamp_11 rfl (lv_at hl 2 rfl) ?_
    refine lv_isub hx hb d_M_tendLamp_12 ?_
    refine lv_istore_n (lv' := [(3, .int (σ.1 - x)), (0, .ref aM), (1, .int (nI i)), (2, .int x)]) hx hb d_M_tendLamp_13 rfl hl (by decide) rfl (fun ls hl => ?_)
    refine lv_aload_n hx hb d_M_tendLamp_14 rfl (lv_at hl 1 rfl) ?_
    refine zget (ci := 11) (fs := [.ref m1, .int (nI n), .ref m2, .ref m3, .ref m4, .ref m5, .ref m6, .long sto, .int ni, .int ac, .int bl, .ref m7, .int (nI (tb 3 σ.2).2.1)]) E hK hP 0 rfl zC_M 5 (by decide) kw_595 (Or.inl rfl) rfl d_M_tendLamp_15 ?_
    refine lv_iload_n hx hb d_M_tendLamp_18 rfl (lv_at hl 2 rfl) ?_
    refine lv_iload_n hx hb d_M_tendLamp_19 rfl (lv_at hl 0 rfl) ?_
    refine lv_if_ge (tgt := 27) hx hb d_M_tendLamp_20 (by decide) (fun h9 => absurd h9 (Int32.not_le.mpr h1)) (fun _ => ?_)
    refine lv_iconst (v := 0) hx hb d_M_tendLamp_23 (by decide) ?_
    refine lv_goto (tgt := 28) hx hb d_M_tendLamp_24 (by decide) ?_
    refine va_iast hx hb hK hP hD hS 5 4 rfl rfl (vp_in_nI hi (by decide)) d_M_tendLamp_28 (fun H locs hP hD hS => ?_)
    rw [nI_clamp (i31 hi)] at hP hD
    rw [upd_upd] at hP hD
    have hP : va_P (dC, dI) classes (wm g1 g2 g3 g4 g5 g6 g7 aM m1 m2 m3 m4 m5 m6 m7 d n kd ht tk (upd so i (0, tb 3 σ.2).1) lt sto ni ac bl (0, tb 3 σ.2).2) H := hP
    have hD : va_D A (wm g1 g2 g3 g4 g5 g6 g7 aM m1 m2 m3 m4 m5 m6 m7 d n kd ht tk (upd so i (0, tb 3 σ.2).1) lt sto ni ac bl (0, tb 3 σ.2).2) := hD
    refine lv_aload_n hx hb d_M_tendLamp_29 rfl (lv_at hl 1 rfl) ?_
    refine zget (ci := 11) (fs := [.ref m1, .int (nI n), .ref m2, .ref m3, .ref m4, .ref m5, .ref m6, .long sto, .int ni, .int ac, .int bl, .ref m7, .int (nI (tb 3 σ.2).2.1)]) E hK hP 0 rfl zC_M 5 (by decide) kw_595 (Or.inl rfl) rfl d_M_tendLamp_30 ?_
    refine lv_iload_n hx hb d_M_tendLamp_33 rfl (lv_at hl 2 rfl) ?_
    refine va_iald hx hb hK hP 5 4 rfl rfl (vp_in_nI hi (by decide)) d_M_tendLamp_34 ?_
    rw [nI_clamp (i31 hi)]
    rw [pk_us]
    exact zri E hK hP hD hS d_M_tendLamp_35
  · have e9 : tLamp x σ = (σ.1 - x, (σ.1 - x, tb 3 σ.2)) := by simp only [tLamp, if_neg h1]
    rw [e9]
    try dsimp only
    refine zM_of "CoastLampsModel" rfl (by decide) (Nat.le_of_ble_eq_true rfl) ?_
    intro p e s m below meth c ls E hP hK hD hS hl
    obtain ⟨hx, hb, hml, ho, hts, hr, hlk⟩ := id E
    have hl : lv_has ls 4 [(0, .ref aM), (1, .int (nI i)), (2, .int x)] := hl
    refine lv_aload_n hx hb d_M_tendLamp_0 rfl (lv_at hl 0 rfl) ?_
    refine lv_iconst (v := 3) hx hb d_M_tendLamp_1 (by decide) ?_
    refine zcV (As := [.int 3]) (rest := []) (ci := 11) E cy_M_begins kw_670 ks_9 kw_668 (c_M_begins l dC dI g1 g2 g3 g4 g5 g6 g7 A aM m1 m2 m3 m4 m5 m6 m7 d n kd ht tk (upd so i σ.1) lt sto ni ac bl σ.2 3) hK hP hD hS 0 rfl zC_M.1 rfl rfl hl.1 rfl (Nat.le_of_ble_eq_true rfl) ⟨Nat.le_of_ble_eq_true rfl, Nat.le_of_ble_eq_true rfl⟩ d_M_tendLamp_2 ⟨Nat.le_refl _, Nat.le_refl _⟩ (fun H locs hP hD hS => ?_)
    have hP : va_P (dC, dI) classes (wm g1 g2 g3 g4 g5 g6 g7 aM m1 m2 m3 m4 m5 m6 m7 d n kd ht tk (upd so i (σ.1, tb 3 σ.2).1) lt sto ni ac bl (σ.1, tb 3 σ.2).2) H := hP
    have hD : va_D A (wm g1 g2 g3 g4 g5 g6 g7 aM m1 m2 m3 m4 m5 m6 m7 d n kd ht tk (upd so i (σ.1, tb 3 σ.2).1) lt sto ni ac bl (σ.1, tb 3 σ.2).2) := hD
    refine lv_aload_n hx hb d_M_tendLamp_5 rfl (lv_at hl 0 rfl) ?_
    refine zget (ci := 11) (fs := [.ref m1, .int (nI n), .ref m2, .ref m3, .ref m4, .ref m5, .ref m6, .long sto, .int ni, .int ac, .int bl, .ref m7, .int (nI (tb 3 σ.2).2.1)]) E hK hP 0 rfl zC_M 5 (by decide) kw_595 (Or.inl rfl) rfl d_M_tendLamp_6 ?_
    refine lv_iload_n hx hb d_M_tendLamp_9 rfl (lv_at hl 1 rfl) ?_
    refine va_iald hx hb hK hP 5 4 rfl rfl (vp_in_nI hi (by decide)) d_M_tendLamp_10 ?_
    rw [nI_clamp (i31 hi)]
    rw [pk_us]
    refine lv_iload_n hx hb d_M_tendLamp_11 rfl (lv_at hl 2 rfl) ?_
    refine lv_isub hx hb d_M_tendLamp_12 ?_
    refine lv_istore_n (lv' := [(3, .int (σ.1 - x)), (0, .ref aM), (1, .int (nI i)), (2, .int x)]) hx hb d_M_tendLamp_13 rfl hl (by decide) rfl (fun ls hl => ?_)
    refine lv_aload_n hx hb d_M_tendLamp_14 rfl (lv_at hl 1 rfl) ?_
    refine zget (ci := 11) (fs := [.ref m1, .int (nI n), .ref m2, .ref m3, .ref m4, .ref m5, .ref m6, .long sto, .int ni, .int ac, .int bl, .ref m7, .int (nI (tb 3 σ.2).2.1)]) E hK hP 0 rfl zC_M 5 (by decide) kw_595 (Or.inl rfl) rfl d_M_tendLamp_15 ?_
    refine lv_iload_n hx hb d_M_tendLamp_18 rfl (lv_at hl 2 rfl) ?_
    refine lv_iload_n hx hb d_M_tendLamp_19 rfl (lv_at hl 0 rfl) ?_
    refine lv_if_ge (tgt := 27) hx hb d_M_tendLamp_20 (by decide) (fun _ => ?_) (fun h9 => absurd (Int32.not_lt.mp h1) h9)
    refine lv_iload_n hx hb d_M_tendLamp_27 rfl (lv_at hl 0 rfl) ?_
    refine va_iast hx hb hK hP hD hS 5 4 rfl rfl (vp_in_nI hi (by decide)) d_M_tendLamp_28 (fun H locs hP hD hS => ?_)
    rw [nI_clamp (i31 hi)] at hP hD
    rw [upd_upd] at hP hD
    have hP : va_P (dC, dI) classes (wm g1 g2 g3 g4 g5 g6 g7 aM m1 m2 m3 m4 m5 m6 m7 d n kd ht tk (upd so i (σ.1 - x, tb 3 σ.2).1) lt sto ni ac bl (σ.1 - x, tb 3 σ.2).2) H := hP
    have hD : va_D A (wm g1 g2 g3 g4 g5 g6 g7 aM m1 m2 m3 m4 m5 m6 m7 d n kd ht tk (upd so i (σ.1 - x, tb 3 σ.2).1) lt sto ni ac bl (σ.1 - x, tb 3 σ.2).2) := hD
    refine lv_aload_n hx hb d_M_tendLamp_29 rfl (lv_at hl 1 rfl) ?_
    refine zget (ci := 11) (fs := [.ref m1, .int (nI n), .ref m2, .ref m3, .ref m4, .ref m5, .ref m6, .long sto, .int ni, .int ac, .int bl, .ref m7, .int (nI (tb 3 σ.2).2.1)]) E hK hP 0 rfl zC_M 5 (by decide) kw_595 (Or.inl rfl) rfl d_M_tendLamp_30 ?_
    refine lv_iload_n hx hb d_M_tendLamp_33 rfl (lv_at hl 2 rfl) ?_
    refine va_iald hx hb hK hP 5 4 rfl rfl (vp_in_nI hi (by decide)) d_M_tendLamp_34 ?_
    rw [nI_clamp (i31 hi)]
    rw [pk_us]
    exact zri E hK hP hD hS d_M_tendLamp_35
set_option maxHeartbeats 1000000 in
set_option maxRecDepth 100000 in
theorem c_M_tendRound (l : Launch) (dC : Nat → ClassId) (dI : Nat → Nat → Nat) (g1 g2 g3 g4 g5 g6 g7 : ClassId) (A : Nat → Prop) (aM m1 m2 m3 m4 m5 m6 m7 : Nat) (d : Nat → Int32) (n : Nat) (kd ht tk so lt : Nat → Int32) (sto : Int64) (ni ac bl : Int32) (i : Nat) (hi : i < 60) (σ : zS) (x : Int32) : zM l y_M_tendRound b_M_tendRound 4 (some (FieldType.int)) 2 44 [.ref aM, .int (nI i), .int x] (dC, dI) (t7 g1 g2 g3 g4 g5 g6 g7) A (wm g1 g2 g3 g4 g5 g6 g7 aM m1 m2 m3 m4 m5 m6 m7 d n kd ht tk (upd so i σ.1) lt sto ni ac bl σ.2) (wm g1 g2 g3 g4 g5 g6 g7 aM m1 m2 m3 m4 m5 m6 m7 d n kd ht tk (upd so i (tRound x σ).2.1) lt sto ni ac bl (tRound x σ).2.2) (some (.int (tRound x σ).1)) := by
  refine zM_of "CoastLampsModel" rfl (by decide) (Nat.le_of_ble_eq_true rfl) ?_
  intro p e s m below meth c ls E hP hK hD hS hl
  obtain ⟨hx, hb, hml, ho, hts, hr, hlk⟩ := id E
  have hl : lv_has ls 4 [(0, .ref aM), (1, .int (nI i)), (2, .int x)] := hl
  refine lv_aload_n hx hb d_M_tendRound_0 rfl (lv_at hl 0 rfl) ?_
  refine lv_bipush (v := 23) hx hb d_M_tendRound_1 (by decide) ?_
  refine zcV (As := [.int 23]) (rest := []) (ci := 11) E cy_M_begins kw_670 ks_9 kw_668 (c_M_begins l dC dI g1 g2 g3 g4 g5 g6 g7 A aM m1 m2 m3 m4 m5 m6 m7 d n kd ht tk (upd so i σ.1) lt sto ni ac bl σ.2 23) hK hP hD hS 0 rfl zC_M.1 rfl rfl hl.1 rfl (Nat.le_of_ble_eq_true rfl) ⟨Nat.le_of_ble_eq_true rfl, Nat.le_of_ble_eq_true rfl⟩ d_M_tendRound_3 ⟨Nat.le_refl _, Nat.le_refl _⟩ (fun H locs hP hD hS => ?_)
  have hP : va_P (dC, dI) classes (wm g1 g2 g3 g4 g5 g6 g7 aM m1 m2 m3 m4 m5 m6 m7 d n kd ht tk (upd so i (σ.1, tb 23 σ.2).1) lt sto ni ac bl (σ.1, tb 23 σ.2).2) H := hP
  have hD : va_D A (wm g1 g2 g3 g4 g5 g6 g7 aM m1 m2 m3 m4 m5 m6 m7 d n kd ht tk (upd so i (σ.1, tb 23 σ.2).1) lt sto ni ac bl (σ.1, tb 23 σ.2).2) := hD
  refine lv_aload_n hx hb d_M_tendRound_6 rfl (lv_at hl 0 rfl) ?_
  refine lv_iload_n hx hb d_M_tendRound_7 rfl (lv_at hl 1 rfl) ?_
  refine lv_iload_n hx hb d_M_tendRound_8 rfl (lv_at hl 2 rfl) ?_
  refine zcV (As := [.int (nI i), .int x]) (rest := []) (ci := 11) E cy_M_tendLamp kw_754 ks_30 kw_752 (c_M_tendLamp l dC dI g1 g2 g3 g4 g5 g6 g7 A aM m1 m2 m3 m4 m5 m6 m7 d n kd ht tk so lt sto ni ac bl i hi (σ.1, tb 23 σ.2) x) hK hP hD hS 0 rfl zC_M.1 rfl rfl hl.1 rfl (Nat.le_of_ble_eq_true rfl) ⟨Nat.le_of_ble_eq_true rfl, Nat.le_of_ble_eq_true rfl⟩ d_M_tendRound_9 ⟨Nat.le_refl _, Nat.le_refl _⟩ (fun H locs hP hD hS => ?_)
  have hP : va_P (dC, dI) classes (wm g1 g2 g3 g4 g5 g6 g7 aM m1 m2 m3 m4 m5 m6 m7 d n kd ht tk (upd so i ((tLamp x (σ.1, tb 23 σ.2)).2).1) lt sto ni ac bl ((tLamp x (σ.1, tb 23 σ.2)).2).2) H := hP
  have hD : va_D A (wm g1 g2 g3 g4 g5 g6 g7 aM m1 m2 m3 m4 m5 m6 m7 d n kd ht tk (upd so i ((tLamp x (σ.1, tb 23 σ.2)).2).1) lt sto ni ac bl ((tLamp x (σ.1, tb 23 σ.2)).2).2) := hD
  refine lv_istore_n (lv' := [(3, .int ((tLamp x (σ.1, tb 23 σ.2)).1)), (0, .ref aM), (1, .int (nI i)), (2, .int x)]) hx hb d_M_tendRound_12 rfl hl (by decide) rfl (fun ls hl => ?_)
  refine lv_aload_n hx hb d_M_tendRound_13 rfl (lv_at hl 1 rfl) ?_
  refine lv_iload_n hx hb d_M_tendRound_14 rfl (lv_at hl 2 rfl) ?_
  refine lv_iload_n hx hb d_M_tendRound_15 rfl (lv_at hl 3 rfl) ?_
  refine lv_iconst (v := 2) hx hb d_M_tendRound_16 (by decide) ?_
  refine lv_idiv hx hb d_M_tendRound_17 (by decide) ?_
  refine zcV (As := [.int (nI i), .int (x / 2)]) (rest := []) (ci := 11) E cy_M_tendLamp kw_754 ks_30 kw_752 (c_M_tendLamp l dC dI g1 g2 g3 g4 g5 g6 g7 A aM m1 m2 m3 m4 m5 m6 m7 d n kd ht tk so lt sto ni ac bl i hi ((tLamp x (σ.1, tb 23 σ.2)).2) (x / 2)) hK hP hD hS 0 rfl zC_M.1 rfl rfl hl.1 rfl (Nat.le_of_ble_eq_true rfl) ⟨Nat.le_of_ble_eq_true rfl, Nat.le_of_ble_eq_true rfl⟩ d_M_tendRound_18 ⟨Nat.le_refl _, Nat.le_refl _⟩ (fun H locs hP hD hS => ?_)
  have hP : va_P (dC, dI) classes (wm g1 g2 g3 g4 g5 g6 g7 aM m1 m2 m3 m4 m5 m6 m7 d n kd ht tk (upd so i ((tLamp (x / 2) ((tLamp x (σ.1, tb 23 σ.2)).2)).2).1) lt sto ni ac bl ((tLamp (x / 2) ((tLamp x (σ.1, tb 23 σ.2)).2)).2).2) H := hP
  have hD : va_D A (wm g1 g2 g3 g4 g5 g6 g7 aM m1 m2 m3 m4 m5 m6 m7 d n kd ht tk (upd so i ((tLamp (x / 2) ((tLamp x (σ.1, tb 23 σ.2)).2)).2).1) lt sto ni ac bl ((tLamp (x / 2) ((tLamp x (σ.1, tb 23 σ.2)).2)).2).2) := hD
  exact zri E hK hP hD hS d_M_tendRound_21
set_option maxHeartbeats 1000000 in
set_option maxRecDepth 100000 in
theorem c_M_tendDrum (l : Launch) (dC : Nat → ClassId) (dI : Nat → Nat → Nat) (g1 g2 g3 g4 g5 g6 g7 : ClassId) (A : Nat → Prop) (aM m1 m2 m3 m4 m5 m6 m7 : Nat) (d : Nat → Int32) (n : Nat) (kd ht tk so lt : Nat → Int32) (sto : Int64) (ni ac bl : Int32) (i : Nat) (hi : i < 60) (σ : zS) (x : Int32) : zM l y_M_tendDrum b_M_tendDrum 3 (some (FieldType.int)) 3 67 [.ref aM, .int (nI i), .int x] (dC, dI) (t7 g1 g2 g3 g4 g5 g6 g7) A (wm g1 g2 g3 g4 g5 g6 g7 aM m1 m2 m3 m4 m5 m6 m7 d n kd ht tk (upd so i σ.1) lt sto ni ac bl σ.2) (wm g1 g2 g3 g4 g5 g6 g7 aM m1 m2 m3 m4 m5 m6 m7 d n kd ht tk (upd so i (tDrum d x σ).2.1) lt sto ni ac bl (tDrum d x σ).2.2) (some (.int (tDrum d x σ).1)) := by
  refine zM_of "CoastLampsModel" rfl (by decide) (Nat.le_of_ble_eq_true rfl) ?_
  intro p e s m below meth c ls E hP hK hD hS hl
  obtain ⟨hx, hb, hml, ho, hts, hr, hlk⟩ := id E
  have hl : lv_has ls 3 [(0, .ref aM), (1, .int (nI i)), (2, .int x)] := hl
  refine lv_aload_n hx hb d_M_tendDrum_0 rfl (lv_at hl 0 rfl) ?_
  refine lv_bipush (v := 43) hx hb d_M_tendDrum_1 (by decide) ?_
  refine zcV (As := [.int 43]) (rest := []) (ci := 11) E cy_M_begins kw_670 ks_9 kw_668 (c_M_begins l dC dI g1 g2 g3 g4 g5 g6 g7 A aM m1 m2 m3 m4 m5 m6 m7 d n kd ht tk (upd so i σ.1) lt sto ni ac bl σ.2 43) hK hP hD hS 0 rfl zC_M.1 rfl rfl hl.1 rfl (Nat.le_of_ble_eq_true rfl) ⟨Nat.le_of_ble_eq_true rfl, Nat.le_of_ble_eq_true rfl⟩ d_M_tendDrum_3 ⟨Nat.le_refl _, Nat.le_refl _⟩ (fun H locs hP hD hS => ?_)
  have hP : va_P (dC, dI) classes (wm g1 g2 g3 g4 g5 g6 g7 aM m1 m2 m3 m4 m5 m6 m7 d n kd ht tk (upd so i (σ.1, tb 43 σ.2).1) lt sto ni ac bl (σ.1, tb 43 σ.2).2) H := hP
  have hD : va_D A (wm g1 g2 g3 g4 g5 g6 g7 aM m1 m2 m3 m4 m5 m6 m7 d n kd ht tk (upd so i (σ.1, tb 43 σ.2).1) lt sto ni ac bl (σ.1, tb 43 σ.2).2) := hD
  refine lv_aload_n hx hb d_M_tendDrum_6 rfl (lv_at hl 0 rfl) ?_
  refine lv_iload_n hx hb d_M_tendDrum_7 rfl (lv_at hl 1 rfl) ?_
  refine lv_iload_n hx hb d_M_tendDrum_8 rfl (lv_at hl 2 rfl) ?_
  refine lv_aload_n hx hb d_M_tendDrum_9 rfl (lv_at hl 0 rfl) ?_
  refine zget (ci := 11) (fs := [.ref m1, .int (nI n), .ref m2, .ref m3, .ref m4, .ref m5, .ref m6, .long sto, .int ni, .int ac, .int bl, .ref m7, .int (nI (tb 43 σ.2).2.1)]) E hK hP 0 rfl zC_M 0 (by decide) kw_590 (Or.inl rfl) rfl d_M_tendDrum_10 ?_
  refine lv_iconst (v := 3) hx hb d_M_tendDrum_13 (by decide) ?_
  refine va_iald hx hb hK hP 1 0 rfl rfl (by unfold vp_in; decide) d_M_tendDrum_14 ?_
  rw [show (3 : Int32).toNatClampNeg = 3 from by decide]
  refine lv_iadd hx hb d_M_tendDrum_15 ?_
  refine zcV (As := [.int (nI i), .int (x + (d 3))]) (rest := []) (ci := 11) E cy_M_tendRound kw_750 ks_29 kw_748 (c_M_tendRound l dC dI g1 g2 g3 g4 g5 g6 g7 A aM m1 m2 m3 m4 m5 m6 m7 d n kd ht tk so lt sto ni ac bl i hi (σ.1, tb 43 σ.2) (x + (d 3))) hK hP hD hS 0 rfl zC_M.1 rfl rfl hl.1 rfl (Nat.le_of_ble_eq_true rfl) ⟨Nat.le_of_ble_eq_true rfl, Nat.le_of_ble_eq_true rfl⟩ d_M_tendDrum_16 ⟨Nat.le_refl _, Nat.le_refl _⟩ (fun H locs hP hD hS => ?_)
  have hP : va_P (dC, dI) classes (wm g1 g2 g3 g4 g5 g6 g7 aM m1 m2 m3 m4 m5 m6 m7 d n kd ht tk (upd so i ((tRound (x + (d 3)) (σ.1, tb 43 σ.2)).2).1) lt sto ni ac bl ((tRound (x + (d 3)) (σ.1, tb 43 σ.2)).2).2) H := hP
  have hD : va_D A (wm g1 g2 g3 g4 g5 g6 g7 aM m1 m2 m3 m4 m5 m6 m7 d n kd ht tk (upd so i ((tRound (x + (d 3)) (σ.1, tb 43 σ.2)).2).1) lt sto ni ac bl ((tRound (x + (d 3)) (σ.1, tb 43 σ.2)).2).2) := hD
  exact zri E hK hP hD hS d_M_tendDrum_19
set_option maxHeartbeats 1000000 in
set_option maxRecDepth 100000 in
theorem c_M_tendBuoy (l : Launch) (dC : Nat → ClassId) (dI : Nat → Nat → Nat) (g1 g2 g3 g4 g5 g6 g7 : ClassId) (A : Nat → Prop) (aM m1 m2 m3 m4 m5 m6 m7 : Nat) (d : Nat → Int32) (n : Nat) (kd ht tk so lt : Nat → Int32) (sto : Int64) (ni ac bl : Int32) (i : Nat) (hi : i < 60) (σ : zS) (x : Int32) : zM l y_M_tendBuoy b_M_tendBuoy 3 (some (FieldType.int)) 2 44 [.ref aM, .int (nI i), .int x] (dC, dI) (t7 g1 g2 g3 g4 g5 g6 g7) A (wm g1 g2 g3 g4 g5 g6 g7 aM m1 m2 m3 m4 m5 m6 m7 d n kd ht tk (upd so i σ.1) lt sto ni ac bl σ.2) (wm g1 g2 g3 g4 g5 g6 g7 aM m1 m2 m3 m4 m5 m6 m7 d n kd ht tk (upd so i (tBuoy d x σ).2.1) lt sto ni ac bl (tBuoy d x σ).2.2) (some (.int (tBuoy d x σ).1)) := by
  by_cases h1 : d 4 = 0
  · have e9 : tBuoy d x σ = tLamp x (σ.1, tb 83 σ.2) := by simp only [tBuoy, if_pos h1]
    rw [e9]
    try dsimp only
    refine zM_of "CoastLampsModel" rfl (by decide) (Nat.le_of_ble_eq_true rfl) ?_
    intro p e s m below meth c ls E hP hK hD hS hl
    obtain ⟨hx, hb, hml, ho, hts, hr, hlk⟩ := id E
    have hl : lv_has ls 3 [(0, .ref aM), (1, .int (nI i)), (2, .int x)] := hl
    refine lv_aload_n hx hb d_M_tendBuoy_0 rfl (lv_at hl 0 rfl) ?_
    refine lv_bipush (v := 83) hx hb d_M_tendBuoy_1 (by decide) ?_
    refine zcV (As := [.int 83]) (rest := []) (ci := 11) E cy_M_begins kw_670 ks_9 kw_668 (c_M_begins l dC dI g1 g2 g3 g4 g5 g6 g7 A aM m1 m2 m3 m4 m5 m6 m7 d n kd ht tk (upd so i σ.1) lt sto ni ac bl σ.2 83) hK hP hD hS 0 rfl zC_M.1 rfl rfl hl.1 rfl (Nat.le_of_ble_eq_true rfl) ⟨Nat.le_of_ble_eq_true rfl, Nat.le_of_ble_eq_true rfl⟩ d_M_tendBuoy_3 ⟨Nat.le_refl _, Nat.le_refl _⟩ (fun H locs hP hD hS => ?_)
    have hP : va_P (dC, dI) classes (wm g1 g2 g3 g4 g5 g6 g7 aM m1 m2 m3 m4 m5 m6 m7 d n kd ht tk (upd so i (σ.1, tb 83 σ.2).1) lt sto ni ac bl (σ.1, tb 83 σ.2).2) H := hP
    have hD : va_D A (wm g1 g2 g3 g4 g5 g6 g7 aM m1 m2 m3 m4 m5 m6 m7 d n kd ht tk (upd so i (σ.1, tb 83 σ.2).1) lt sto ni ac bl (σ.1, tb 83 σ.2).2) := hD
    refine lv_aload_n hx hb d_M_tendBuoy_6 rfl (lv_at hl 0 rfl) ?_
    refine zget (ci := 11) (fs := [.ref m1, .int (nI n), .ref m2, .ref m3, .ref m4, .ref m5, .ref m6, .long sto, .int ni, .int ac, .int bl, .ref m7, .int (nI (tb 83 σ.2).2.1)]) E hK hP 0 rfl zC_M 0 (by decide) kw_590 (Or.inl rfl) rfl d_M_tendBuoy_7 ?_
    refine lv_iconst (v := 4) hx hb d_M_tendBuoy_10 (by decide) ?_
    refine va_iald hx hb hK hP 1 0 rfl rfl (by unfold vp_in; decide) d_M_tendBuoy_11 ?_
    rw [show (4 : Int32).toNatClampNeg = 4 from by decide]
    refine lv_if_ne (tgt := 24) hx hb d_M_tendBuoy_12 (by decide) (fun h9 => absurd (h1) h9) (fun _ => ?_)
    refine lv_aload_n hx hb d_M_tendBuoy_15 rfl (lv_at hl 0 rfl) ?_
    refine lv_iload_n hx hb d_M_tendBuoy_16 rfl (lv_at hl 1 rfl) ?_
    refine lv_iload_n hx hb d_M_tendBuoy_17 rfl (lv_at hl 2 rfl) ?_
    refine zcV (As := [.int (nI i), .int x]) (rest := []) (ci := 11) E cy_M_tendLamp kw_754 ks_30 kw_752 (c_M_tendLamp l dC dI g1 g2 g3 g4 g5 g6 g7 A aM m1 m2 m3 m4 m5 m6 m7 d n kd ht tk so lt sto ni ac bl i hi (σ.1, tb 83 σ.2) x) hK hP hD hS 0 rfl zC_M.1 rfl rfl hl.1 rfl (Nat.le_of_ble_eq_true rfl) ⟨Nat.le_of_ble_eq_true rfl, Nat.le_of_ble_eq_true rfl⟩ d_M_tendBuoy_18 ⟨Nat.le_refl _, Nat.le_refl _⟩ (fun H locs hP hD hS => ?_)
    have hP : va_P (dC, dI) classes (wm g1 g2 g3 g4 g5 g6 g7 aM m1 m2 m3 m4 m5 m6 m7 d n kd ht tk (upd so i ((tLamp x (σ.1, tb 83 σ.2)).2).1) lt sto ni ac bl ((tLamp x (σ.1, tb 83 σ.2)).2).2) H := hP
    have hD : va_D A (wm g1 g2 g3 g4 g5 g6 g7 aM m1 m2 m3 m4 m5 m6 m7 d n kd ht tk (upd so i ((tLamp x (σ.1, tb 83 σ.2)).2).1) lt sto ni ac bl ((tLamp x (σ.1, tb 83 σ.2)).2).2) := hD
    refine lv_goto (tgt := 30) hx hb d_M_tendBuoy_21 (by decide) ?_
    exact zri E hK hP hD hS d_M_tendBuoy_30
  · have e9 : tBuoy d x σ = (d 4, (σ.1, tb 83 σ.2)) := by simp only [tBuoy, if_neg h1]
    rw [e9]
    try dsimp only
    refine zM_of "CoastLampsModel" rfl (by decide) (Nat.le_of_ble_eq_true rfl) ?_
    intro p e s m below meth c ls E hP hK hD hS hl
    obtain ⟨hx, hb, hml, ho, hts, hr, hlk⟩ := id E
    have hl : lv_has ls 3 [(0, .ref aM), (1, .int (nI i)), (2, .int x)] := hl
    refine lv_aload_n hx hb d_M_tendBuoy_0 rfl (lv_at hl 0 rfl) ?_
    refine lv_bipush (v := 83) hx hb d_M_tendBuoy_1 (by decide) ?_
    refine zcV (As := [.int 83]) (rest := []) (ci := 11) E cy_M_begins kw_670 ks_9 kw_668 (c_M_begins l dC dI g1 g2 g3 g4 g5 g6 g7 A aM m1 m2 m3 m4 m5 m6 m7 d n kd ht tk (upd so i σ.1) lt sto ni ac bl σ.2 83) hK hP hD hS 0 rfl zC_M.1 rfl rfl hl.1 rfl (Nat.le_of_ble_eq_true rfl) ⟨Nat.le_of_ble_eq_true rfl, Nat.le_of_ble_eq_true rfl⟩ d_M_tendBuoy_3 ⟨Nat.le_refl _, Nat.le_refl _⟩ (fun H locs hP hD hS => ?_)
    have hP : va_P (dC, dI) classes (wm g1 g2 g3 g4 g5 g6 g7 aM m1 m2 m3 m4 m5 m6 m7 d n kd ht tk (upd so i (σ.1, tb 83 σ.2).1) lt sto ni ac bl (σ.1, tb 83 σ.2).2) H := hP
    have hD : va_D A (wm g1 g2 g3 g4 g5 g6 g7 aM m1 m2 m3 m4 m5 m6 m7 d n kd ht tk (upd so i (σ.1, tb 83 σ.2).1) lt sto ni ac bl (σ.1, tb 83 σ.2).2) := hD
    refine lv_aload_n hx hb d_M_tendBuoy_6 rfl (lv_at hl 0 rfl) ?_
    refine zget (ci := 11) (fs := [.ref m1, .int (nI n), .ref m2, .ref m3, .ref m4, .ref m5, .ref m6, .long sto, .int ni, .int ac, .int bl, .ref m7, .int (nI (tb 83 σ.2).2.1)]) E hK hP 0 rfl zC_M 0 (by decide) kw_590 (Or.inl rfl) rfl d_M_tendBuoy_7 ?_
    refine lv_iconst (v := 4) hx hb d_M_tendBuoy_10 (by decide) ?_
    refine va_iald hx hb hK hP 1 0 rfl rfl (by unfold vp_in; decide) d_M_tendBuoy_11 ?_
    rw [show (4 : Int32).toNatClampNeg = 4 from by decide]
    refine lv_if_ne (tgt := 24) hx hb d_M_tendBuoy_12 (by decide) (fun _ => ?_) (fun h9 => absurd h9 (h1))
    refine lv_aload_n hx hb d_M_tendBuoy_24 rfl (lv_at hl 0 rfl) ?_
    refine zget (ci := 11) (fs := [.ref m1, .int (nI n), .ref m2, .ref m3, .ref m4, .ref m5, .ref m6, .long sto, .int ni, .int ac, .int bl, .ref m7, .int (nI (tb 83 σ.2).2.1)]) E hK hP 0 rfl zC_M 0 (by decide) kw_590 (Or.inl rfl) rfl d_M_tendBuoy_25 ?_
    refine lv_iconst (v := 4) hx hb d_M_tendBuoy_28 (by decide) ?_
    refine va_iald hx hb hK hP 1 0 rfl rfl (by unfold vp_in; decide) d_M_tendBuoy_29 ?_
    rw [show (4 : Int32).toNatClampNeg = 4 from by decide]
    exact zri E hK hP hD hS d_M_tendBuoy_30
set_option maxHeartbeats 1000000 in
set_option maxRecDepth 100000 in
theorem c_M_rankLamp (l : Launch) (dC : Nat → ClassId) (dI : Nat → Nat → Nat) (g1 g2 g3 g4 g5 g6 g7 : ClassId) (A : Nat → Prop) (aM m1 m2 m3 m4 m5 m6 m7 : Nat) (d : Nat → Int32) (n : Nat) (kd ht tk so lt : Nat → Int32) (sto : Int64) (ni ac bl : Int32) (i : Nat) (hi : i < 60) (σ : zS) : zM l y_M_rankLamp b_M_rankLamp 2 (some (FieldType.int)) 1 21 [.ref aM, .int (nI i)] (dC, dI) (t7 g1 g2 g3 g4 g5 g6 g7) A (wm g1 g2 g3 g4 g5 g6 g7 aM m1 m2 m3 m4 m5 m6 m7 d n kd ht tk (upd so i σ.1) lt sto ni ac bl σ.2) (wm g1 g2 g3 g4 g5 g6 g7 aM m1 m2 m3 m4 m5 m6 m7 d n kd ht tk (upd so i (kLamp (ht i) σ).2.1) lt sto ni ac bl (kLamp (ht i) σ).2.2) (some (.int (kLamp (ht i) σ).1)) := by
  refine zM_of "CoastLampsModel" rfl (by decide) (Nat.le_of_ble_eq_true rfl) ?_
  intro p e s m below meth c ls E hP hK hD hS hl
  obtain ⟨hx, hb, hml, ho, hts, hr, hlk⟩ := id E
  have hl : lv_has ls 2 [(0, .ref aM), (1, .int (nI i))] := hl
  refine lv_aload_n hx hb d_M_rankLamp_0 rfl (lv_at hl 0 rfl) ?_
  refine lv_iconst (v := 4) hx hb d_M_rankLamp_1 (by decide) ?_
  refine zcV (As := [.int 4]) (rest := []) (ci := 11) E cy_M_begins kw_670 ks_9 kw_668 (c_M_begins l dC dI g1 g2 g3 g4 g5 g6 g7 A aM m1 m2 m3 m4 m5 m6 m7 d n kd ht tk (upd so i σ.1) lt sto ni ac bl σ.2 4) hK hP hD hS 0 rfl zC_M.1 rfl rfl hl.1 rfl (Nat.le_of_ble_eq_true rfl) ⟨Nat.le_of_ble_eq_true rfl, Nat.le_of_ble_eq_true rfl⟩ d_M_rankLamp_2 ⟨Nat.le_refl _, Nat.le_refl _⟩ (fun H locs hP hD hS => ?_)
  have hP : va_P (dC, dI) classes (wm g1 g2 g3 g4 g5 g6 g7 aM m1 m2 m3 m4 m5 m6 m7 d n kd ht tk (upd so i (σ.1, tb 4 σ.2).1) lt sto ni ac bl (σ.1, tb 4 σ.2).2) H := hP
  have hD : va_D A (wm g1 g2 g3 g4 g5 g6 g7 aM m1 m2 m3 m4 m5 m6 m7 d n kd ht tk (upd so i (σ.1, tb 4 σ.2).1) lt sto ni ac bl (σ.1, tb 4 σ.2).2) := hD
  refine lv_aload_n hx hb d_M_rankLamp_5 rfl (lv_at hl 0 rfl) ?_
  refine zget (ci := 11) (fs := [.ref m1, .int (nI n), .ref m2, .ref m3, .ref m4, .ref m5, .ref m6, .long sto, .int ni, .int ac, .int bl, .ref m7, .int (nI (tb 4 σ.2).2.1)]) E hK hP 0 rfl zC_M 3 (by decide) kw_593 (Or.inl rfl) rfl d_M_rankLamp_6 ?_
  refine lv_iload_n hx hb d_M_rankLamp_9 rfl (lv_at hl 1 rfl) ?_
  refine va_iald hx hb hK hP 3 2 rfl rfl (vp_in_nI hi (by decide)) d_M_rankLamp_10 ?_
  rw [nI_clamp (i31 hi)]
  refine lv_bipush (v := 9) hx hb d_M_rankLamp_11 (by decide) ?_
  refine lv_irem hx hb d_M_rankLamp_13 (by decide) ?_
  exact zri E hK hP hD hS d_M_rankLamp_14
set_option maxHeartbeats 1000000 in
set_option maxRecDepth 100000 in
theorem c_M_rankOil (l : Launch) (dC : Nat → ClassId) (dI : Nat → Nat → Nat) (g1 g2 g3 g4 g5 g6 g7 : ClassId) (A : Nat → Prop) (aM m1 m2 m3 m4 m5 m6 m7 : Nat) (d : Nat → Int32) (n : Nat) (kd ht tk so lt : Nat → Int32) (sto : Int64) (ni ac bl : Int32) (i : Nat) (hi : i < 60) (σ : zS) : zM l y_M_rankOil b_M_rankOil 2 (some (FieldType.int)) 2 42 [.ref aM, .int (nI i)] (dC, dI) (t7 g1 g2 g3 g4 g5 g6 g7) A (wm g1 g2 g3 g4 g5 g6 g7 aM m1 m2 m3 m4 m5 m6 m7 d n kd ht tk (upd so i σ.1) lt sto ni ac bl σ.2) (wm g1 g2 g3 g4 g5 g6 g7 aM m1 m2 m3 m4 m5 m6 m7 d n kd ht tk (upd so i (kOil (ht i) σ).2.1) lt sto ni ac bl (kOil (ht i) σ).2.2) (some (.int (kOil (ht i) σ).1)) := by
  refine zM_of "CoastLampsModel" rfl (by decide) (Nat.le_of_ble_eq_true rfl) ?_
  intro p e s m below meth c ls E hP hK hD hS hl
  obtain ⟨hx, hb, hml, ho, hts, hr, hlk⟩ := id E
  have hl : lv_has ls 2 [(0, .ref aM), (1, .int (nI i))] := hl
  refine lv_aload_n hx hb d_M_rankOil_0 rfl (lv_at hl 0 rfl) ?_
  refine lv_bipush (v := 14) hx hb d_M_rankOil_1 (by decide) ?_
  refine zcV (As := [.int 14]) (rest := []) (ci := 11) E cy_M_begins kw_670 ks_9 kw_668 (c_M_begins l dC dI g1 g2 g3 g4 g5 g6 g7 A aM m1 m2 m3 m4 m5 m6 m7 d n kd ht tk (upd so i σ.1) lt sto ni ac bl σ.2 14) hK hP hD hS 0 rfl zC_M.1 rfl rfl hl.1 rfl (Nat.le_of_ble_eq_true rfl) ⟨Nat.le_of_ble_eq_true rfl, Nat.le_of_ble_eq_true rfl⟩ d_M_rankOil_3 ⟨Nat.le_refl _, Nat.le_refl _⟩ (fun H locs hP hD hS => ?_)
  have hP : va_P (dC, dI) classes (wm g1 g2 g3 g4 g5 g6 g7 aM m1 m2 m3 m4 m5 m6 m7 d n kd ht tk (upd so i (σ.1, tb 14 σ.2).1) lt sto ni ac bl (σ.1, tb 14 σ.2).2) H := hP
  have hD : va_D A (wm g1 g2 g3 g4 g5 g6 g7 aM m1 m2 m3 m4 m5 m6 m7 d n kd ht tk (upd so i (σ.1, tb 14 σ.2).1) lt sto ni ac bl (σ.1, tb 14 σ.2).2) := hD
  refine lv_aload_n hx hb d_M_rankOil_6 rfl (lv_at hl 0 rfl) ?_
  refine lv_iload_n hx hb d_M_rankOil_7 rfl (lv_at hl 1 rfl) ?_
  refine zcV (As := [.int (nI i)]) (rest := []) (ci := 11) E cy_M_rankLamp kw_774 ks_35 kw_772 (c_M_rankLamp l dC dI g1 g2 g3 g4 g5 g6 g7 A aM m1 m2 m3 m4 m5 m6 m7 d n kd ht tk so lt sto ni ac bl i hi (σ.1, tb 14 σ.2)) hK hP hD hS 0 rfl zC_M.1 rfl rfl hl.1 rfl (Nat.le_of_ble_eq_true rfl) ⟨Nat.le_of_ble_eq_true rfl, Nat.le_of_ble_eq_true rfl⟩ d_M_rankOil_8 ⟨Nat.le_refl _, Nat.le_refl _⟩ (fun H locs hP hD hS => ?_)
  have hP : va_P (dC, dI) classes (wm g1 g2 g3 g4 g5 g6 g7 aM m1 m2 m3 m4 m5 m6 m7 d n kd ht tk (upd so i ((kLamp (ht i) (σ.1, tb 14 σ.2)).2).1) lt sto ni ac bl ((kLamp (ht i) (σ.1, tb 14 σ.2)).2).2) H := hP
  have hD : va_D A (wm g1 g2 g3 g4 g5 g6 g7 aM m1 m2 m3 m4 m5 m6 m7 d n kd ht tk (upd so i ((kLamp (ht i) (σ.1, tb 14 σ.2)).2).1) lt sto ni ac bl ((kLamp (ht i) (σ.1, tb 14 σ.2)).2).2) := hD
  refine lv_iconst (v := 1) hx hb d_M_rankOil_11 (by decide) ?_
  refine lv_iadd hx hb d_M_rankOil_12 ?_
  exact zri E hK hP hD hS d_M_rankOil_13
set_option maxHeartbeats 1000000 in
set_option maxRecDepth 100000 in
theorem c_M_rankDrum (l : Launch) (dC : Nat → ClassId) (dI : Nat → Nat → Nat) (g1 g2 g3 g4 g5 g6 g7 : ClassId) (A : Nat → Prop) (aM m1 m2 m3 m4 m5 m6 m7 : Nat) (d : Nat → Int32) (n : Nat) (kd ht tk so lt : Nat → Int32) (sto : Int64) (ni ac bl : Int32) (i : Nat) (hi : i < 60) (σ : zS) : zM l y_M_rankDrum b_M_rankDrum 2 (some (FieldType.int)) 3 63 [.ref aM, .int (nI i)] (dC, dI) (t7 g1 g2 g3 g4 g5 g6 g7) A (wm g1 g2 g3 g4 g5 g6 g7 aM m1 m2 m3 m4 m5 m6 m7 d n kd ht tk (upd so i σ.1) lt sto ni ac bl σ.2) (wm g1 g2 g3 g4 g5 g6 g7 aM m1 m2 m3 m4 m5 m6 m7 d n kd ht tk (upd so i (kDrum (ht i) σ).2.1) lt sto ni ac bl (kDrum (ht i) σ).2.2) (some (.int (kDrum (ht i) σ).1)) := by
  refine zM_of "CoastLampsModel" rfl (by decide) (Nat.le_of_ble_eq_true rfl) ?_
  intro p e s m below meth c ls E hP hK hD hS hl
  obtain ⟨hx, hb, hml, ho, hts, hr, hlk⟩ := id E
  have hl : lv_has ls 2 [(0, .ref aM), (1, .int (nI i))] := hl
  refine lv_aload_n hx hb d_M_rankDrum_0 rfl (lv_at hl 0 rfl) ?_
  refine lv_bipush (v := 44) hx hb d_M_rankDrum_1 (by decide) ?_
  refine zcV (As := [.int 44]) (rest := []) (ci := 11) E cy_M_begins kw_670 ks_9 kw_668 (c_M_begins l dC dI g1 g2 g3 g4 g5 g6 g7 A aM m1 m2 m3 m4 m5 m6 m7 d n kd ht tk (upd so i σ.1) lt sto ni ac bl σ.2 44) hK hP hD hS 0 rfl zC_M.1 rfl rfl hl.1 rfl (Nat.le_of_ble_eq_true rfl) ⟨Nat.le_of_ble_eq_true rfl, Nat.le_of_ble_eq_true rfl⟩ d_M_rankDrum_3 ⟨Nat.le_refl _, Nat.le_refl _⟩ (fun H locs hP hD hS => ?_)
  have hP : va_P (dC, dI) classes (wm g1 g2 g3 g4 g5 g6 g7 aM m1 m2 m3 m4 m5 m6 m7 d n kd ht tk (upd so i (σ.1, tb 44 σ.2).1) lt sto ni ac bl (σ.1, tb 44 σ.2).2) H := hP
  have hD : va_D A (wm g1 g2 g3 g4 g5 g6 g7 aM m1 m2 m3 m4 m5 m6 m7 d n kd ht tk (upd so i (σ.1, tb 44 σ.2).1) lt sto ni ac bl (σ.1, tb 44 σ.2).2) := hD
  refine lv_iconst (v := 2) hx hb d_M_rankDrum_6 (by decide) ?_
  refine lv_aload_n hx hb d_M_rankDrum_7 rfl (lv_at hl 0 rfl) ?_
  refine lv_iload_n hx hb d_M_rankDrum_8 rfl (lv_at hl 1 rfl) ?_
  refine zcV (As := [.int (nI i)]) (rest := [.int 2]) (ci := 11) E cy_M_rankOil kw_770 ks_34 kw_768 (c_M_rankOil l dC dI g1 g2 g3 g4 g5 g6 g7 A aM m1 m2 m3 m4 m5 m6 m7 d n kd ht tk so lt sto ni ac bl i hi (σ.1, tb 44 σ.2)) hK hP hD hS 0 rfl zC_M.1 rfl rfl hl.1 rfl (Nat.le_of_ble_eq_true rfl) ⟨Nat.le_of_ble_eq_true rfl, Nat.le_of_ble_eq_true rfl⟩ d_M_rankDrum_9 ⟨Nat.le_refl _, Nat.le_refl _⟩ (fun H locs hP hD hS => ?_)
  have hP : va_P (dC, dI) classes (wm g1 g2 g3 g4 g5 g6 g7 aM m1 m2 m3 m4 m5 m6 m7 d n kd ht tk (upd so i ((kOil (ht i) (σ.1, tb 44 σ.2)).2).1) lt sto ni ac bl ((kOil (ht i) (σ.1, tb 44 σ.2)).2).2) H := hP
  have hD : va_D A (wm g1 g2 g3 g4 g5 g6 g7 aM m1 m2 m3 m4 m5 m6 m7 d n kd ht tk (upd so i ((kOil (ht i) (σ.1, tb 44 σ.2)).2).1) lt sto ni ac bl ((kOil (ht i) (σ.1, tb 44 σ.2)).2).2) := hD
  refine lv_imul hx hb d_M_rankDrum_12 ?_
  exact zri E hK hP hD hS d_M_rankDrum_13
set_option maxHeartbeats 1000000 in
set_option maxRecDepth 100000 in
theorem c_M_rankFlare (l : Launch) (dC : Nat → ClassId) (dI : Nat → Nat → Nat) (g1 g2 g3 g4 g5 g6 g7 : ClassId) (A : Nat → Prop) (aM m1 m2 m3 m4 m5 m6 m7 : Nat) (d : Nat → Int32) (n : Nat) (kd ht tk so lt : Nat → Int32) (sto : Int64) (ni ac bl : Int32) (i : Nat) (hi : i < 60) (σ : zS) : zM l y_M_rankFlare b_M_rankFlare 2 (some (FieldType.int)) 2 42 [.ref aM, .int (nI i)] (dC, dI) (t7 g1 g2 g3 g4 g5 g6 g7) A (wm g1 g2 g3 g4 g5 g6 g7 aM m1 m2 m3 m4 m5 m6 m7 d n kd ht tk (upd so i σ.1) lt sto ni ac bl σ.2) (wm g1 g2 g3 g4 g5 g6 g7 aM m1 m2 m3 m4 m5 m6 m7 d n kd ht tk (upd so i (kFlare (ht i) σ).2.1) lt sto ni ac bl (kFlare (ht i) σ).2.2) (some (.int (kFlare (ht i) σ).1)) := by
  refine zM_of "CoastLampsModel" rfl (by decide) (Nat.le_of_ble_eq_true rfl) ?_
  intro p e s m below meth c ls E hP hK hD hS hl
  obtain ⟨hx, hb, hml, ho, hts, hr, hlk⟩ := id E
  have hl : lv_has ls 2 [(0, .ref aM), (1, .int (nI i))] := hl
  refine lv_aload_n hx hb d_M_rankFlare_0 rfl (lv_at hl 0 rfl) ?_
  refine lv_bipush (v := 74) hx hb d_M_rankFlare_1 (by decide) ?_
  refine zcV (As := [.int 74]) (rest := []) (ci := 11) E cy_M_begins kw_670 ks_9 kw_668 (c_M_begins l dC dI g1 g2 g3 g4 g5 g6 g7 A aM m1 m2 m3 m4 m5 m6 m7 d n kd ht tk (upd so i σ.1) lt sto ni ac bl σ.2 74) hK hP hD hS 0 rfl zC_M.1 rfl rfl hl.1 rfl (Nat.le_of_ble_eq_true rfl) ⟨Nat.le_of_ble_eq_true rfl, Nat.le_of_ble_eq_true rfl⟩ d_M_rankFlare_3 ⟨Nat.le_refl _, Nat.le_refl _⟩ (fun H locs hP hD hS => ?_)
  have hP : va_P (dC, dI) classes (wm g1 g2 g3 g4 g5 g6 g7 aM m1 m2 m3 m4 m5 m6 m7 d n kd ht tk (upd so i (σ.1, tb 74 σ.2).1) lt sto ni ac bl (σ.1, tb 74 σ.2).2) H := hP
  have hD : va_D A (wm g1 g2 g3 g4 g5 g6 g7 aM m1 m2 m3 m4 m5 m6 m7 d n kd ht tk (upd so i (σ.1, tb 74 σ.2).1) lt sto ni ac bl (σ.1, tb 74 σ.2).2) := hD
  refine lv_aload_n hx hb d_M_rankFlare_6 rfl (lv_at hl 0 rfl) ?_
  refine lv_iload_n hx hb d_M_rankFlare_7 rfl (lv_at hl 1 rfl) ?_
  refine zcV (As := [.int (nI i)]) (rest := []) (ci := 11) E cy_M_rankLamp kw_774 ks_35 kw_772 (c_M_rankLamp l dC dI g1 g2 g3 g4 g5 g6 g7 A aM m1 m2 m3 m4 m5 m6 m7 d n kd ht tk so lt sto ni ac bl i hi (σ.1, tb 74 σ.2)) hK hP hD hS 0 rfl zC_M.1 rfl rfl hl.1 rfl (Nat.le_of_ble_eq_true rfl) ⟨Nat.le_of_ble_eq_true rfl, Nat.le_of_ble_eq_true rfl⟩ d_M_rankFlare_8 ⟨Nat.le_refl _, Nat.le_refl _⟩ (fun H locs hP hD hS => ?_)
  have hP : va_P (dC, dI) classes (wm g1 g2 g3 g4 g5 g6 g7 aM m1 m2 m3 m4 m5 m6 m7 d n kd ht tk (upd so i ((kLamp (ht i) (σ.1, tb 74 σ.2)).2).1) lt sto ni ac bl ((kLamp (ht i) (σ.1, tb 74 σ.2)).2).2) H := hP
  have hD : va_D A (wm g1 g2 g3 g4 g5 g6 g7 aM m1 m2 m3 m4 m5 m6 m7 d n kd ht tk (upd so i ((kLamp (ht i) (σ.1, tb 74 σ.2)).2).1) lt sto ni ac bl ((kLamp (ht i) (σ.1, tb 74 σ.2)).2).2) := hD
  refine lv_aload_n hx hb d_M_rankFlare_11 rfl (lv_at hl 0 rfl) ?_
  refine zget (ci := 11) (fs := [.ref m1, .int (nI n), .ref m2, .ref m3, .ref m4, .ref m5, .ref m6, .long sto, .int ni, .int ac, .int bl, .ref m7, .int (nI (((kLamp (ht i) (σ.1, tb 74 σ.2)).2).2).2.1)]) E hK hP 0 rfl zC_M 5 (by decide) kw_595 (Or.inl rfl) rfl d_M_rankFlare_12 ?_
  refine lv_iload_n hx hb d_M_rankFlare_15 rfl (lv_at hl 1 rfl) ?_
  refine va_iald hx hb hK hP 5 4 rfl rfl (vp_in_nI hi (by decide)) d_M_rankFlare_16 ?_
  rw [nI_clamp (i31 hi)]
  rw [pk_us]
  refine lv_iconst (v := 5) hx hb d_M_rankFlare_17 (by decide) ?_
  refine lv_irem hx hb d_M_rankFlare_18 (by decide) ?_
  refine lv_iadd hx hb d_M_rankFlare_19 ?_
  exact zri E hK hP hD hS d_M_rankFlare_20
set_option maxHeartbeats 1000000 in
set_option maxRecDepth 100000 in
theorem c_M_rankOuter (l : Launch) (dC : Nat → ClassId) (dI : Nat → Nat → Nat) (g1 g2 g3 g4 g5 g6 g7 : ClassId) (A : Nat → Prop) (aM m1 m2 m3 m4 m5 m6 m7 : Nat) (d : Nat → Int32) (n : Nat) (kd ht tk so lt : Nat → Int32) (sto : Int64) (ni ac bl : Int32) (i : Nat) (hi : i < 60) (σ : zS) : zM l y_M_rankOuter b_M_rankOuter 2 (some (FieldType.int)) 3 63 [.ref aM, .int (nI i)] (dC, dI) (t7 g1 g2 g3 g4 g5 g6 g7) A (wm g1 g2 g3 g4 g5 g6 g7 aM m1 m2 m3 m4 m5 m6 m7 d n kd ht tk (upd so i σ.1) lt sto ni ac bl σ.2) (wm g1 g2 g3 g4 g5 g6 g7 aM m1 m2 m3 m4 m5 m6 m7 d n kd ht tk (upd so i (kOuter (ht i) (tk i) σ).2.1) lt sto ni ac bl (kOuter (ht i) (tk i) σ).2.2) (some (.int (kOuter (ht i) (tk i) σ).1)) := by
  refine zM_of "CoastLampsModel" rfl (by decide) (Nat.le_of_ble_eq_true rfl) ?_
  intro p e s m below meth c ls E hP hK hD hS hl
  obtain ⟨hx, hb, hml, ho, hts, hr, hlk⟩ := id E
  have hl : lv_has ls 2 [(0, .ref aM), (1, .int (nI i))] := hl
  refine lv_aload_n hx hb d_M_rankOuter_0 rfl (lv_at hl 0 rfl) ?_
  refine lv_bipush (v := 94) hx hb d_M_rankOuter_1 (by decide) ?_
  refine zcV (As := [.int 94]) (rest := []) (ci := 11) E cy_M_begins kw_670 ks_9 kw_668 (c_M_begins l dC dI g1 g2 g3 g4 g5 g6 g7 A aM m1 m2 m3 m4 m5 m6 m7 d n kd ht tk (upd so i σ.1) lt sto ni ac bl σ.2 94) hK hP hD hS 0 rfl zC_M.1 rfl rfl hl.1 rfl (Nat.le_of_ble_eq_true rfl) ⟨Nat.le_of_ble_eq_true rfl, Nat.le_of_ble_eq_true rfl⟩ d_M_rankOuter_3 ⟨Nat.le_refl _, Nat.le_refl _⟩ (fun H locs hP hD hS => ?_)
  have hP : va_P (dC, dI) classes (wm g1 g2 g3 g4 g5 g6 g7 aM m1 m2 m3 m4 m5 m6 m7 d n kd ht tk (upd so i (σ.1, tb 94 σ.2).1) lt sto ni ac bl (σ.1, tb 94 σ.2).2) H := hP
  have hD : va_D A (wm g1 g2 g3 g4 g5 g6 g7 aM m1 m2 m3 m4 m5 m6 m7 d n kd ht tk (upd so i (σ.1, tb 94 σ.2).1) lt sto ni ac bl (σ.1, tb 94 σ.2).2) := hD
  refine lv_aload_n hx hb d_M_rankOuter_6 rfl (lv_at hl 0 rfl) ?_
  refine lv_iload_n hx hb d_M_rankOuter_7 rfl (lv_at hl 1 rfl) ?_
  refine zcV (As := [.int (nI i)]) (rest := []) (ci := 11) E cy_M_rankFlare kw_786 ks_38 kw_784 (c_M_rankFlare l dC dI g1 g2 g3 g4 g5 g6 g7 A aM m1 m2 m3 m4 m5 m6 m7 d n kd ht tk so lt sto ni ac bl i hi (σ.1, tb 94 σ.2)) hK hP hD hS 0 rfl zC_M.1 rfl rfl hl.1 rfl (Nat.le_of_ble_eq_true rfl) ⟨Nat.le_of_ble_eq_true rfl, Nat.le_of_ble_eq_true rfl⟩ d_M_rankOuter_8 ⟨Nat.le_refl _, Nat.le_refl _⟩ (fun H locs hP hD hS => ?_)
  have hP : va_P (dC, dI) classes (wm g1 g2 g3 g4 g5 g6 g7 aM m1 m2 m3 m4 m5 m6 m7 d n kd ht tk (upd so i ((kFlare (ht i) (σ.1, tb 94 σ.2)).2).1) lt sto ni ac bl ((kFlare (ht i) (σ.1, tb 94 σ.2)).2).2) H := hP
  have hD : va_D A (wm g1 g2 g3 g4 g5 g6 g7 aM m1 m2 m3 m4 m5 m6 m7 d n kd ht tk (upd so i ((kFlare (ht i) (σ.1, tb 94 σ.2)).2).1) lt sto ni ac bl ((kFlare (ht i) (σ.1, tb 94 σ.2)).2).2) := hD
  refine lv_aload_n hx hb d_M_rankOuter_11 rfl (lv_at hl 0 rfl) ?_
  refine zget (ci := 11) (fs := [.ref m1, .int (nI n), .ref m2, .ref m3, .ref m4, .ref m5, .ref m6, .long sto, .int ni, .int ac, .int bl, .ref m7, .int (nI (((kFlare (ht i) (σ.1, tb 94 σ.2)).2).2).2.1)]) E hK hP 0 rfl zC_M 4 (by decide) kw_594 (Or.inl rfl) rfl d_M_rankOuter_12 ?_
  refine lv_iload_n hx hb d_M_rankOuter_15 rfl (lv_at hl 1 rfl) ?_
  refine va_iald hx hb hK hP 4 3 rfl rfl (vp_in_nI hi (by decide)) d_M_rankOuter_16 ?_
  rw [nI_clamp (i31 hi)]
  refine lv_iconst (v := 3) hx hb d_M_rankOuter_17 (by decide) ?_
  refine lv_irem hx hb d_M_rankOuter_18 (by decide) ?_
  refine lv_iadd hx hb d_M_rankOuter_19 ?_
  exact zri E hK hP hD hS d_M_rankOuter_20
set_option maxHeartbeats 1000000 in
set_option maxRecDepth 100000 in
theorem c_M_toneOil (l : Launch) (dC : Nat → ClassId) (dI : Nat → Nat → Nat) (g1 g2 g3 g4 g5 g6 g7 : ClassId) (A : Nat → Prop) (aM m1 m2 m3 m4 m5 m6 m7 : Nat) (d : Nat → Int32) (n : Nat) (kd ht tk so lt : Nat → Int32) (sto : Int64) (ni ac bl : Int32) (i : Nat) (hi : i < 60) (σ : zS) : zM l y_M_toneOil b_M_toneOil 1 (some (FieldType.int)) 1 21 [.ref aM] (dC, dI) (t7 g1 g2 g3 g4 g5 g6 g7) A (wm g1 g2 g3 g4 g5 g6 g7 aM m1 m2 m3 m4 m5 m6 m7 d n kd ht tk (upd so i σ.1) lt sto ni ac bl σ.2) (wm g1 g2 g3 g4 g5 g6 g7 aM m1 m2 m3 m4 m5 m6 m7 d n kd ht tk (upd so i (oOil σ).2.1) lt sto ni ac bl (oOil σ).2.2) (some (.int (oOil σ).1)) := by
  refine zM_of "CoastLampsModel" rfl (by decide) (Nat.le_of_ble_eq_true rfl) ?_
  intro p e s m below meth c ls E hP hK hD hS hl
  obtain ⟨hx, hb, hml, ho, hts, hr, hlk⟩ := id E
  have hl : lv_has ls 1 [(0, .ref aM)] := hl
  refine lv_aload_n hx hb d_M_toneOil_0 rfl (lv_at hl 0 rfl) ?_
  refine lv_bipush (v := 16) hx hb d_M_toneOil_1 (by decide) ?_
  refine zcV (As := [.int 16]) (rest := []) (ci := 11) E cy_M_begins kw_670 ks_9 kw_668 (c_M_begins l dC dI g1 g2 g3 g4 g5 g6 g7 A aM m1 m2 m3 m4 m5 m6 m7 d n kd ht tk (upd so i σ.1) lt sto ni ac bl σ.2 16) hK hP hD hS 0 rfl zC_M.1 rfl rfl hl.1 rfl (Nat.le_of_ble_eq_true rfl) ⟨Nat.le_of_ble_eq_true rfl, Nat.le_of_ble_eq_true rfl⟩ d_M_toneOil_3 ⟨Nat.le_refl _, Nat.le_refl _⟩ (fun H locs hP hD hS => ?_)
  have hP : va_P (dC, dI) classes (wm g1 g2 g3 g4 g5 g6 g7 aM m1 m2 m3 m4 m5 m6 m7 d n kd ht tk (upd so i (σ.1, tb 16 σ.2).1) lt sto ni ac bl (σ.1, tb 16 σ.2).2) H := hP
  have hD : va_D A (wm g1 g2 g3 g4 g5 g6 g7 aM m1 m2 m3 m4 m5 m6 m7 d n kd ht tk (upd so i (σ.1, tb 16 σ.2).1) lt sto ni ac bl (σ.1, tb 16 σ.2).2) := hD
  refine lv_bipush (v := 7) hx hb d_M_toneOil_6 (by decide) ?_
  exact zri E hK hP hD hS d_M_toneOil_8
set_option maxHeartbeats 1000000 in
set_option maxRecDepth 100000 in
theorem c_M_toneDrum (l : Launch) (dC : Nat → ClassId) (dI : Nat → Nat → Nat) (g1 g2 g3 g4 g5 g6 g7 : ClassId) (A : Nat → Prop) (aM m1 m2 m3 m4 m5 m6 m7 : Nat) (d : Nat → Int32) (n : Nat) (kd ht tk so lt : Nat → Int32) (sto : Int64) (ni ac bl : Int32) (i : Nat) (hi : i < 60) (σ : zS) : zM l y_M_toneDrum b_M_toneDrum 1 (some (FieldType.int)) 2 41 [.ref aM] (dC, dI) (t7 g1 g2 g3 g4 g5 g6 g7) A (wm g1 g2 g3 g4 g5 g6 g7 aM m1 m2 m3 m4 m5 m6 m7 d n kd ht tk (upd so i σ.1) lt sto ni ac bl σ.2) (wm g1 g2 g3 g4 g5 g6 g7 aM m1 m2 m3 m4 m5 m6 m7 d n kd ht tk (upd so i (oDrum d σ).2.1) lt sto ni ac bl (oDrum d σ).2.2) (some (.int (oDrum d σ).1)) := by
  refine zM_of "CoastLampsModel" rfl (by decide) (Nat.le_of_ble_eq_true rfl) ?_
  intro p e s m below meth c ls E hP hK hD hS hl
  obtain ⟨hx, hb, hml, ho, hts, hr, hlk⟩ := id E
  have hl : lv_has ls 1 [(0, .ref aM)] := hl
  refine lv_aload_n hx hb d_M_toneDrum_0 rfl (lv_at hl 0 rfl) ?_
  refine lv_bipush (v := 46) hx hb d_M_toneDrum_1 (by decide) ?_
  refine zcV (As := [.int 46]) (rest := []) (ci := 11) E cy_M_begins kw_670 ks_9 kw_668 (c_M_begins l dC dI g1 g2 g3 g4 g5 g6 g7 A aM m1 m2 m3 m4 m5 m6 m7 d n kd ht tk (upd so i σ.1) lt sto ni ac bl σ.2 46) hK hP hD hS 0 rfl zC_M.1 rfl rfl hl.1 rfl (Nat.le_of_ble_eq_true rfl) ⟨Nat.le_of_ble_eq_true rfl, Nat.le_of_ble_eq_true rfl⟩ d_M_toneDrum_3 ⟨Nat.le_refl _, Nat.le_refl _⟩ (fun H locs hP hD hS => ?_)
  have hP : va_P (dC, dI) classes (wm g1 g2 g3 g4 g5 g6 g7 aM m1 m2 m3 m4 m5 m6 m7 d n kd ht tk (upd so i (σ.1, tb 46 σ.2).1) lt sto ni ac bl (σ.1, tb 46 σ.2).2) H := hP
  have hD : va_D A (wm g1 g2 g3 g4 g5 g6 g7 aM m1 m2 m3 m4 m5 m6 m7 d n kd ht tk (upd so i (σ.1, tb 46 σ.2).1) lt sto ni ac bl (σ.1, tb 46 σ.2).2) := hD
  refine lv_aload_n hx hb d_M_toneDrum_6 rfl (lv_at hl 0 rfl) ?_
  refine zcV (As := []) (rest := []) (ci := 11) E cy_M_toneOil kw_802 ks_42 kw_800 (c_M_toneOil l dC dI g1 g2 g3 g4 g5 g6 g7 A aM m1 m2 m3 m4 m5 m6 m7 d n kd ht tk so lt sto ni ac bl i hi (σ.1, tb 46 σ.2)) hK hP hD hS 0 rfl zC_M.1 rfl rfl hl.1 rfl (Nat.le_of_ble_eq_true rfl) ⟨Nat.le_of_ble_eq_true rfl, Nat.le_of_ble_eq_true rfl⟩ d_M_toneDrum_7 ⟨Nat.le_refl _, Nat.le_refl _⟩ (fun H locs hP hD hS => ?_)
  have hP : va_P (dC, dI) classes (wm g1 g2 g3 g4 g5 g6 g7 aM m1 m2 m3 m4 m5 m6 m7 d n kd ht tk (upd so i ((oOil (σ.1, tb 46 σ.2)).2).1) lt sto ni ac bl ((oOil (σ.1, tb 46 σ.2)).2).2) H := hP
  have hD : va_D A (wm g1 g2 g3 g4 g5 g6 g7 aM m1 m2 m3 m4 m5 m6 m7 d n kd ht tk (upd so i ((oOil (σ.1, tb 46 σ.2)).2).1) lt sto ni ac bl ((oOil (σ.1, tb 46 σ.2)).2).2) := hD
  refine lv_aload_n hx hb d_M_toneDrum_10 rfl (lv_at hl 0 rfl) ?_
  refine zget (ci := 11) (fs := [.ref m1, .int (nI n), .ref m2, .ref m3, .ref m4, .ref m5, .ref m6, .long sto, .int ni, .int ac, .int bl, .ref m7, .int (nI (((oOil (σ.1, tb 46 σ.2)).2).2).2.1)]) E hK hP 0 rfl zC_M 0 (by decide) kw_590 (Or.inl rfl) rfl d_M_toneDrum_11 ?_
  refine lv_iconst (v := 5) hx hb d_M_toneDrum_14 (by decide) ?_
  refine va_iald hx hb hK hP 1 0 rfl rfl (by unfold vp_in; decide) d_M_toneDrum_15 ?_
  rw [show (5 : Int32).toNatClampNeg = 5 from by decide]
  refine lv_iadd hx hb d_M_toneDrum_16 ?_
  exact zri E hK hP hD hS d_M_toneDrum_17
set_option maxHeartbeats 1000000 in
set_option maxRecDepth 100000 in
theorem c_M_toneFlare (l : Launch) (dC : Nat → ClassId) (dI : Nat → Nat → Nat) (g1 g2 g3 g4 g5 g6 g7 : ClassId) (A : Nat → Prop) (aM m1 m2 m3 m4 m5 m6 m7 : Nat) (d : Nat → Int32) (n : Nat) (kd ht tk so lt : Nat → Int32) (sto : Int64) (ni ac bl : Int32) (i : Nat) (hi : i < 60) (σ : zS) : zM l y_M_toneFlare b_M_toneFlare 1 (some (FieldType.int)) 1 21 [.ref aM] (dC, dI) (t7 g1 g2 g3 g4 g5 g6 g7) A (wm g1 g2 g3 g4 g5 g6 g7 aM m1 m2 m3 m4 m5 m6 m7 d n kd ht tk (upd so i σ.1) lt sto ni ac bl σ.2) (wm g1 g2 g3 g4 g5 g6 g7 aM m1 m2 m3 m4 m5 m6 m7 d n kd ht tk (upd so i (oFlare σ).2.1) lt sto ni ac bl (oFlare σ).2.2) (some (.int (oFlare σ).1)) := by
  refine zM_of "CoastLampsModel" rfl (by decide) (Nat.le_of_ble_eq_true rfl) ?_
  intro p e s m below meth c ls E hP hK hD hS hl
  obtain ⟨hx, hb, hml, ho, hts, hr, hlk⟩ := id E
  have hl : lv_has ls 1 [(0, .ref aM)] := hl
  refine lv_aload_n hx hb d_M_toneFlare_0 rfl (lv_at hl 0 rfl) ?_
  refine lv_bipush (v := 76) hx hb d_M_toneFlare_1 (by decide) ?_
  refine zcV (As := [.int 76]) (rest := []) (ci := 11) E cy_M_begins kw_670 ks_9 kw_668 (c_M_begins l dC dI g1 g2 g3 g4 g5 g6 g7 A aM m1 m2 m3 m4 m5 m6 m7 d n kd ht tk (upd so i σ.1) lt sto ni ac bl σ.2 76) hK hP hD hS 0 rfl zC_M.1 rfl rfl hl.1 rfl (Nat.le_of_ble_eq_true rfl) ⟨Nat.le_of_ble_eq_true rfl, Nat.le_of_ble_eq_true rfl⟩ d_M_toneFlare_3 ⟨Nat.le_refl _, Nat.le_refl _⟩ (fun H locs hP hD hS => ?_)
  have hP : va_P (dC, dI) classes (wm g1 g2 g3 g4 g5 g6 g7 aM m1 m2 m3 m4 m5 m6 m7 d n kd ht tk (upd so i (σ.1, tb 76 σ.2).1) lt sto ni ac bl (σ.1, tb 76 σ.2).2) H := hP
  have hD : va_D A (wm g1 g2 g3 g4 g5 g6 g7 aM m1 m2 m3 m4 m5 m6 m7 d n kd ht tk (upd so i (σ.1, tb 76 σ.2).1) lt sto ni ac bl (σ.1, tb 76 σ.2).2) := hD
  refine lv_bipush (v := 9) hx hb d_M_toneFlare_6 (by decide) ?_
  exact zri E hK hP hD hS d_M_toneFlare_8
end
section
set_option maxHeartbeats 1000000 in
set_option maxRecDepth 100000 in
theorem c_M_burn (l : Launch) (dC : Nat → ClassId) (dI : Nat → Nat → Nat) (g1 g2 g3 g4 g5 g6 g7 : ClassId) (A : Nat → Prop) (aM m1 m2 m3 m4 m5 m6 m7 : Nat) (d : Nat → Int32) (n : Nat) (kd ht tk so lt : Nat → Int32) (sto : Int64) (ni ac bl : Int32) (i : Nat) (hi : i < 60) (σ : zS) (k : Nat) (hk : k < 9) (hkd : kd i = nI (k + 1)) (x : Int32) : zM l y_M_burn b_M_burn 3 (some (FieldType.int)) 5 111 [.ref aM, .int (nI i), .int x] (dC, dI) (t7 g1 g2 g3 g4 g5 g6 g7) A (wm g1 g2 g3 g4 g5 g6 g7 aM m1 m2 m3 m4 m5 m6 m7 d n kd ht tk (upd so i σ.1) lt sto ni ac bl σ.2) (wm g1 g2 g3 g4 g5 g6 g7 aM m1 m2 m3 m4 m5 m6 m7 d n kd ht tk (upd so i (burnK k d x σ).2.1) lt sto ni ac bl (burnK k d x σ).2.2) (some (.int (burnK k d x σ).1)) := by
  rcases (show k = 0 ∨ k = 1 ∨ k = 2 ∨ k = 3 ∨ k = 4 ∨ k = 5 ∨ k = 6 ∨ k = 7 ∨ k = 8 by omega) with rfl | rfl | rfl | rfl | rfl | rfl | rfl | rfl | rfl
  · refine zM_of "CoastLampsModel" rfl (by decide) (Nat.le_of_ble_eq_true rfl) ?_
    intro p e s m below meth c ls E hP hK hD hS hl
    obtain ⟨hx, hb, hml, ho, hts, hr, hlk⟩ := id E
    have hl : lv_has ls 3 [(0, .ref aM), (1, .int (nI i)), (2, .int x)] := hl
    refine lv_aload_n hx hb d_M_burn_0 rfl (lv_at hl 0 rfl) ?_
    refine zget (ci := 11) (fs := [.ref m1, .int (nI n), .ref m2, .ref m3, .ref m4, .ref m5, .ref m6, .long sto, .int ni, .int ac, .int bl, .ref m7, .int (nI σ.2.2.1)]) E hK hP 0 rfl zC_M 2 (by decide) kw_592 (Or.inl rfl) rfl d_M_burn_1 ?_
    refine lv_iload_n hx hb d_M_burn_4 rfl (lv_at hl 1 rfl) ?_
    refine va_iald hx hb hK hP 2 1 rfl rfl (vp_in_nI hi (by decide)) d_M_burn_5 ?_
    rw [nI_clamp (i31 hi)]
    rw [hkd]
    refine lv_tableIn (off := 50) (tgt := 56) hx hb d_M_burn_6 (by decide) (by decide) (by decide) (by decide) ?_
    refine lv_aload_n hx hb d_M_burn_56 rfl (lv_at hl 0 rfl) ?_
    refine lv_iload_n hx hb d_M_burn_57 rfl (lv_at hl 1 rfl) ?_
    refine lv_iload_n hx hb d_M_burn_58 rfl (lv_at hl 2 rfl) ?_
    refine zcV (As := [.int (nI i), .int x]) (rest := []) (ci := 11) E cy_M_burnOil kw_666 ks_8 kw_664 (c_M_burnOil l dC dI g1 g2 g3 g4 g5 g6 g7 A aM m1 m2 m3 m4 m5 m6 m7 d n kd ht tk so lt sto ni ac bl i hi σ x) hK hP hD hS 0 rfl zC_M.1 rfl rfl hl.1 rfl (Nat.le_of_ble_eq_true rfl) ⟨Nat.le_of_ble_eq_true rfl, Nat.le_of_ble_eq_true rfl⟩ d_M_burn_59 ⟨Nat.le_refl _, Nat.le_refl _⟩ (fun H locs hP hD hS => ?_)
    have hP : va_P (dC, dI) classes (wm g1 g2 g3 g4 g5 g6 g7 aM m1 m2 m3 m4 m5 m6 m7 d n kd ht tk (upd so i ((bOil d x σ).2).1) lt sto ni ac bl ((bOil d x σ).2).2) H := hP
    have hD : va_D A (wm g1 g2 g3 g4 g5 g6 g7 aM m1 m2 m3 m4 m5 m6 m7 d n kd ht tk (upd so i ((bOil d x σ).2).1) lt sto ni ac bl ((bOil d x σ).2).2) := hD
    exact zri E hK hP hD hS d_M_burn_62
  · refine zM_of "CoastLampsModel" rfl (by decide) (Nat.le_of_ble_eq_true rfl) ?_
    intro p e s m below meth c ls E hP hK hD hS hl
    obtain ⟨hx, hb, hml, ho, hts, hr, hlk⟩ := id E
    have hl : lv_has ls 3 [(0, .ref aM), (1, .int (nI i)), (2, .int x)] := hl
    refine lv_aload_n hx hb d_M_burn_0 rfl (lv_at hl 0 rfl) ?_
    refine zget (ci := 11) (fs := [.ref m1, .int (nI n), .ref m2, .ref m3, .ref m4, .ref m5, .ref m6, .long sto, .int ni, .int ac, .int bl, .ref m7, .int (nI σ.2.2.1)]) E hK hP 0 rfl zC_M 2 (by decide) kw_592 (Or.inl rfl) rfl d_M_burn_1 ?_
    refine lv_iload_n hx hb d_M_burn_4 rfl (lv_at hl 1 rfl) ?_
    refine va_iald hx hb hK hP 2 1 rfl rfl (vp_in_nI hi (by decide)) d_M_burn_5 ?_
    rw [nI_clamp (i31 hi)]
    rw [hkd]
    refine lv_tableIn (off := 50) (tgt := 56) hx hb d_M_burn_6 (by decide) (by decide) (by decide) (by decide) ?_
    refine lv_aload_n hx hb d_M_burn_56 rfl (lv_at hl 0 rfl) ?_
    refine lv_iload_n hx hb d_M_burn_57 rfl (lv_at hl 1 rfl) ?_
    refine lv_iload_n hx hb d_M_burn_58 rfl (lv_at hl 2 rfl) ?_
    refine zcV (As := [.int (nI i), .int x]) (rest := []) (ci := 11) E cy_M_burnOil kw_666 ks_8 kw_664 (c_M_burnOil l dC dI g1 g2 g3 g4 g5 g6 g7 A aM m1 m2 m3 m4 m5 m6 m7 d n kd ht tk so lt sto ni ac bl i hi σ x) hK hP hD hS 0 rfl zC_M.1 rfl rfl hl.1 rfl (Nat.le_of_ble_eq_true rfl) ⟨Nat.le_of_ble_eq_true rfl, Nat.le_of_ble_eq_true rfl⟩ d_M_burn_59 ⟨Nat.le_refl _, Nat.le_refl _⟩ (fun H locs hP hD hS => ?_)
    have hP : va_P (dC, dI) classes (wm g1 g2 g3 g4 g5 g6 g7 aM m1 m2 m3 m4 m5 m6 m7 d n kd ht tk (upd so i ((bOil d x σ).2).1) lt sto ni ac bl ((bOil d x σ).2).2) H := hP
    have hD : va_D A (wm g1 g2 g3 g4 g5 g6 g7 aM m1 m2 m3 m4 m5 m6 m7 d n kd ht tk (upd so i ((bOil d x σ).2).1) lt sto ni ac bl ((bOil d x σ).2).2) := hD
    exact zri E hK hP hD hS d_M_burn_62
  · refine zM_of "CoastLampsModel" rfl (by decide) (Nat.le_of_ble_eq_true rfl) ?_
    intro p e s m below meth c ls E hP hK hD hS hl
    obtain ⟨hx, hb, hml, ho, hts, hr, hlk⟩ := id E
    have hl : lv_has ls 3 [(0, .ref aM), (1, .int (nI i)), (2, .int x)] := hl
    refine lv_aload_n hx hb d_M_burn_0 rfl (lv_at hl 0 rfl) ?_
    refine zget (ci := 11) (fs := [.ref m1, .int (nI n), .ref m2, .ref m3, .ref m4, .ref m5, .ref m6, .long sto, .int ni, .int ac, .int bl, .ref m7, .int (nI σ.2.2.1)]) E hK hP 0 rfl zC_M 2 (by decide) kw_592 (Or.inl rfl) rfl d_M_burn_1 ?_
    refine lv_iload_n hx hb d_M_burn_4 rfl (lv_at hl 1 rfl) ?_
    refine va_iald hx hb hK hP 2 1 rfl rfl (vp_in_nI hi (by decide)) d_M_burn_5 ?_
    rw [nI_clamp (i31 hi)]
    rw [hkd]
    refine lv_tableIn (off := 57) (tgt := 63) hx hb d_M_burn_6 (by decide) (by decide) (by decide) (by decide) ?_
    refine lv_aload_n hx hb d_M_burn_63 rfl (lv_at hl 0 rfl) ?_
    refine lv_iload_n hx hb d_M_burn_64 rfl (lv_at hl 1 rfl) ?_
    refine lv_iload_n hx hb d_M_burn_65 rfl (lv_at hl 2 rfl) ?_
    refine zcV (As := [.int (nI i), .int x]) (rest := []) (ci := 11) E cy_M_burnTwin kw_678 ks_11 kw_676 (c_M_burnTwin l dC dI g1 g2 g3 g4 g5 g6 g7 A aM m1 m2 m3 m4 m5 m6 m7 d n kd ht tk so lt sto ni ac bl i hi σ x) hK hP hD hS 0 rfl zC_M.1 rfl rfl hl.1 rfl (Nat.le_of_ble_eq_true rfl) ⟨Nat.le_of_ble_eq_true rfl, Nat.le_of_ble_eq_true rfl⟩ d_M_burn_66 ⟨Nat.le_refl _, Nat.le_refl _⟩ (fun H locs hP hD hS => ?_)
    have hP : va_P (dC, dI) classes (wm g1 g2 g3 g4 g5 g6 g7 aM m1 m2 m3 m4 m5 m6 m7 d n kd ht tk (upd so i ((bTwin d x σ).2).1) lt sto ni ac bl ((bTwin d x σ).2).2) H := hP
    have hD : va_D A (wm g1 g2 g3 g4 g5 g6 g7 aM m1 m2 m3 m4 m5 m6 m7 d n kd ht tk (upd so i ((bTwin d x σ).2).1) lt sto ni ac bl ((bTwin d x σ).2).2) := hD
    exact zri E hK hP hD hS d_M_burn_69
  · refine zM_of "CoastLampsModel" rfl (by decide) (Nat.le_of_ble_eq_true rfl) ?_
    intro p e s m below meth c ls E hP hK hD hS hl
    obtain ⟨hx, hb, hml, ho, hts, hr, hlk⟩ := id E
    have hl : lv_has ls 3 [(0, .ref aM), (1, .int (nI i)), (2, .int x)] := hl
    refine lv_aload_n hx hb d_M_burn_0 rfl (lv_at hl 0 rfl) ?_
    refine zget (ci := 11) (fs := [.ref m1, .int (nI n), .ref m2, .ref m3, .ref m4, .ref m5, .ref m6, .long sto, .int ni, .int ac, .int bl, .ref m7, .int (nI σ.2.2.1)]) E hK hP 0 rfl zC_M 2 (by decide) kw_592 (Or.inl rfl) rfl d_M_burn_1 ?_
    refine lv_iload_n hx hb d_M_burn_4 rfl (lv_at hl 1 rfl) ?_
    refine va_iald hx hb hK hP 2 1 rfl rfl (vp_in_nI hi (by decide)) d_M_burn_5 ?_
    rw [nI_clamp (i31 hi)]
    rw [hkd]
    refine lv_tableIn (off := 57) (tgt := 63) hx hb d_M_burn_6 (by decide) (by decide) (by decide) (by decide) ?_
    refine lv_aload_n hx hb d_M_burn_63 rfl (lv_at hl 0 rfl) ?_
    refine lv_iload_n hx hb d_M_burn_64 rfl (lv_at hl 1 rfl) ?_
    refine lv_iload_n hx hb d_M_burn_65 rfl (lv_at hl 2 rfl) ?_
    refine zcV (As := [.int (nI i), .int x]) (rest := []) (ci := 11) E cy_M_burnTwin kw_678 ks_11 kw_676 (c_M_burnTwin l dC dI g1 g2 g3 g4 g5 g6 g7 A aM m1 m2 m3 m4 m5 m6 m7 d n kd ht tk so lt sto ni ac bl i hi σ x) hK hP hD hS 0 rfl zC_M.1 rfl rfl hl.1 rfl (Nat.le_of_ble_eq_true rfl) ⟨Nat.le_of_ble_eq_true rfl, Nat.le_of_ble_eq_true rfl⟩ d_M_burn_66 ⟨Nat.le_refl _, Nat.le_refl _⟩ (fun H locs hP hD hS => ?_)
    have hP : va_P (dC, dI) classes (wm g1 g2 g3 g4 g5 g6 g7 aM m1 m2 m3 m4 m5 m6 m7 d n kd ht tk (upd so i ((bTwin d x σ).2).1) lt sto ni ac bl ((bTwin d x σ).2).2) H := hP
    have hD : va_D A (wm g1 g2 g3 g4 g5 g6 g7 aM m1 m2 m3 m4 m5 m6 m7 d n kd ht tk (upd so i ((bTwin d x σ).2).1) lt sto ni ac bl ((bTwin d x σ).2).2) := hD
    exact zri E hK hP hD hS d_M_burn_69
  · refine zM_of "CoastLampsModel" rfl (by decide) (Nat.le_of_ble_eq_true rfl) ?_
    intro p e s m below meth c ls E hP hK hD hS hl
    obtain ⟨hx, hb, hml, ho, hts, hr, hlk⟩ := id E
    have hl : lv_has ls 3 [(0, .ref aM), (1, .int (nI i)), (2, .int x)] := hl
    refine lv_aload_n hx hb d_M_burn_0 rfl (lv_at hl 0 rfl) ?_
    refine zget (ci := 11) (fs := [.ref m1, .int (nI n), .ref m2, .ref m3, .ref m4, .ref m5, .ref m6, .long sto, .int ni, .int ac, .int bl, .ref m7, .int (nI σ.2.2.1)]) E hK hP 0 rfl zC_M 2 (by decide) kw_592 (Or.inl rfl) rfl d_M_burn_1 ?_
    refine lv_iload_n hx hb d_M_burn_4 rfl (lv_at hl 1 rfl) ?_
    refine va_iald hx hb hK hP 2 1 rfl rfl (vp_in_nI hi (by decide)) d_M_burn_5 ?_
    rw [nI_clamp (i31 hi)]
    rw [hkd]
    refine lv_tableIn (off := 64) (tgt := 70) hx hb d_M_burn_6 (by decide) (by decide) (by decide) (by decide) ?_
    refine lv_aload_n hx hb d_M_burn_70 rfl (lv_at hl 0 rfl) ?_
    refine lv_iload_n hx hb d_M_burn_71 rfl (lv_at hl 1 rfl) ?_
    refine lv_iload_n hx hb d_M_burn_72 rfl (lv_at hl 2 rfl) ?_
    refine zcV (As := [.int (nI i), .int x]) (rest := []) (ci := 11) E cy_M_burnSwing kw_682 ks_12 kw_680 (c_M_burnSwing l dC dI g1 g2 g3 g4 g5 g6 g7 A aM m1 m2 m3 m4 m5 m6 m7 d n kd ht tk so lt sto ni ac bl i hi σ x) hK hP hD hS 0 rfl zC_M.1 rfl rfl hl.1 rfl (Nat.le_of_ble_eq_true rfl) ⟨Nat.le_of_ble_eq_true rfl, Nat.le_of_ble_eq_true rfl⟩ d_M_burn_73 ⟨Nat.le_refl _, Nat.le_refl _⟩ (fun H locs hP hD hS => ?_)
    have hP : va_P (dC, dI) classes (wm g1 g2 g3 g4 g5 g6 g7 aM m1 m2 m3 m4 m5 m6 m7 d n kd ht tk (upd so i ((bSwing d x σ).2).1) lt sto ni ac bl ((bSwing d x σ).2).2) H := hP
    have hD : va_D A (wm g1 g2 g3 g4 g5 g6 g7 aM m1 m2 m3 m4 m5 m6 m7 d n kd ht tk (upd so i ((bSwing d x σ).2).1) lt sto ni ac bl ((bSwing d x σ).2).2) := hD
    exact zri E hK hP hD hS d_M_burn_76
  · refine zM_of "CoastLampsModel" rfl (by decide) (Nat.le_of_ble_eq_true rfl) ?_
    intro p e s m below meth c ls E hP hK hD hS hl
    obtain ⟨hx, hb, hml, ho, hts, hr, hlk⟩ := id E
    have hl : lv_has ls 3 [(0, .ref aM), (1, .int (nI i)), (2, .int x)] := hl
    refine lv_aload_n hx hb d_M_burn_0 rfl (lv_at hl 0 rfl) ?_
    refine zget (ci := 11) (fs := [.ref m1, .int (nI n), .ref m2, .ref m3, .ref m4, .ref m5, .ref m6, .long sto, .int ni, .int ac, .int bl, .ref m7, .int (nI σ.2.2.1)]) E hK hP 0 rfl zC_M 2 (by decide) kw_592 (Or.inl rfl) rfl d_M_burn_1 ?_
    refine lv_iload_n hx hb d_M_burn_4 rfl (lv_at hl 1 rfl) ?_
    refine va_iald hx hb hK hP 2 1 rfl rfl (vp_in_nI hi (by decide)) d_M_burn_5 ?_
    rw [nI_clamp (i31 hi)]
    rw [hkd]
    refine lv_tableIn (off := 71) (tgt := 77) hx hb d_M_burn_6 (by decide) (by decide) (by decide) (by decide) ?_
    refine lv_aload_n hx hb d_M_burn_77 rfl (lv_at hl 0 rfl) ?_
    refine lv_iload_n hx hb d_M_burn_78 rfl (lv_at hl 1 rfl) ?_
    refine lv_iload_n hx hb d_M_burn_79 rfl (lv_at hl 2 rfl) ?_
    refine zcV (As := [.int (nI i), .int x]) (rest := []) (ci := 11) E cy_M_burnLamp kw_674 ks_10 kw_672 (c_M_burnLamp l dC dI g1 g2 g3 g4 g5 g6 g7 A aM m1 m2 m3 m4 m5 m6 m7 d n kd ht tk so lt sto ni ac bl i hi σ x) hK hP hD hS 0 rfl zC_M.1 rfl rfl hl.1 rfl (Nat.le_of_ble_eq_true rfl) ⟨Nat.le_of_ble_eq_true rfl, Nat.le_of_ble_eq_true rfl⟩ d_M_burn_80 ⟨Nat.le_refl _, Nat.le_refl _⟩ (fun H locs hP hD hS => ?_)
    have hP : va_P (dC, dI) classes (wm g1 g2 g3 g4 g5 g6 g7 aM m1 m2 m3 m4 m5 m6 m7 d n kd ht tk (upd so i ((bLamp d x σ).2).1) lt sto ni ac bl ((bLamp d x σ).2).2) H := hP
    have hD : va_D A (wm g1 g2 g3 g4 g5 g6 g7 aM m1 m2 m3 m4 m5 m6 m7 d n kd ht tk (upd so i ((bLamp d x σ).2).1) lt sto ni ac bl ((bLamp d x σ).2).2) := hD
    exact zri E hK hP hD hS d_M_burn_83
  · refine zM_of "CoastLampsModel" rfl (by decide) (Nat.le_of_ble_eq_true rfl) ?_
    intro p e s m below meth c ls E hP hK hD hS hl
    obtain ⟨hx, hb, hml, ho, hts, hr, hlk⟩ := id E
    have hl : lv_has ls 3 [(0, .ref aM), (1, .int (nI i)), (2, .int x)] := hl
    refine lv_aload_n hx hb d_M_burn_0 rfl (lv_at hl 0 rfl) ?_
    refine zget (ci := 11) (fs := [.ref m1, .int (nI n), .ref m2, .ref m3, .ref m4, .ref m5, .ref m6, .long sto, .int ni, .int ac, .int bl, .ref m7, .int (nI σ.2.2.1)]) E hK hP 0 rfl zC_M 2 (by decide) kw_592 (Or.inl rfl) rfl d_M_burn_1 ?_
    refine lv_iload_n hx hb d_M_burn_4 rfl (lv_at hl 1 rfl) ?_
    refine va_iald hx hb hK hP 2 1 rfl rfl (vp_in_nI hi (by decide)) d_M_burn_5 ?_
    rw [nI_clamp (i31 hi)]
    rw [hkd]
    refine lv_tableIn (off := 85) (tgt := 91) hx hb d_M_burn_6 (by decide) (by decide) (by decide) (by decide) ?_
    refine lv_aload_n hx hb d_M_burn_91 rfl (lv_at hl 0 rfl) ?_
    refine lv_iload_n hx hb d_M_burn_92 rfl (lv_at hl 1 rfl) ?_
    refine lv_iload_n hx hb d_M_burn_93 rfl (lv_at hl 2 rfl) ?_
    refine zcV (As := [.int (nI i), .int x]) (rest := []) (ci := 11) E cy_M_burnFlare kw_690 ks_14 kw_688 (c_M_burnFlare l dC dI g1 g2 g3 g4 g5 g6 g7 A aM m1 m2 m3 m4 m5 m6 m7 d n kd ht tk so lt sto ni ac bl i hi σ x) hK hP hD hS 0 rfl zC_M.1 rfl rfl hl.1 rfl (Nat.le_of_ble_eq_true rfl) ⟨Nat.le_of_ble_eq_true rfl, Nat.le_of_ble_eq_true rfl⟩ d_M_burn_94 ⟨Nat.le_refl _, Nat.le_refl _⟩ (fun H locs hP hD hS => ?_)
    have hP : va_P (dC, dI) classes (wm g1 g2 g3 g4 g5 g6 g7 aM m1 m2 m3 m4 m5 m6 m7 d n kd ht tk (upd so i ((bFlare d x σ).2).1) lt sto ni ac bl ((bFlare d x σ).2).2) H := hP
    have hD : va_D A (wm g1 g2 g3 g4 g5 g6 g7 aM m1 m2 m3 m4 m5 m6 m7 d n kd ht tk (upd so i ((bFlare d x σ).2).1) lt sto ni ac bl ((bFlare d x σ).2).2) := hD
    exact zri E hK hP hD hS d_M_burn_97
  · refine zM_of "CoastLampsModel" rfl (by decide) (Nat.le_of_ble_eq_true rfl) ?_
    intro p e s m below meth c ls E hP hK hD hS hl
    obtain ⟨hx, hb, hml, ho, hts, hr, hlk⟩ := id E
    have hl : lv_has ls 3 [(0, .ref aM), (1, .int (nI i)), (2, .int x)] := hl
    refine lv_aload_n hx hb d_M_burn_0 rfl (lv_at hl 0 rfl) ?_
    refine zget (ci := 11) (fs := [.ref m1, .int (nI n), .ref m2, .ref m3, .ref m4, .ref m5, .ref m6, .long sto, .int ni, .int ac, .int bl, .ref m7, .int (nI σ.2.2.1)]) E hK hP 0 rfl zC_M 2 (by decide) kw_592 (Or.inl rfl) rfl d_M_burn_1 ?_
    refine lv_iload_n hx hb d_M_burn_4 rfl (lv_at hl 1 rfl) ?_
    refine va_iald hx hb hK hP 2 1 rfl rfl (vp_in_nI hi (by decide)) d_M_burn_5 ?_
    rw [nI_clamp (i31 hi)]
    rw [hkd]
    refine lv_tableIn (off := 85) (tgt := 91) hx hb d_M_burn_6 (by decide) (by decide) (by decide) (by decide) ?_
    refine lv_aload_n hx hb d_M_burn_91 rfl (lv_at hl 0 rfl) ?_
    refine lv_iload_n hx hb d_M_burn_92 rfl (lv_at hl 1 rfl) ?_
    refine lv_iload_n hx hb d_M_burn_93 rfl (lv_at hl 2 rfl) ?_
    refine zcV (As := [.int (nI i), .int x]) (rest := []) (ci := 11) E cy_M_burnFlare kw_690 ks_14 kw_688 (c_M_burnFlare l dC dI g1 g2 g3 g4 g5 g6 g7 A aM m1 m2 m3 m4 m5 m6 m7 d n kd ht tk so lt sto ni ac bl i hi σ x) hK hP hD hS 0 rfl zC_M.1 rfl rfl hl.1 rfl (Nat.le_of_ble_eq_true rfl) ⟨Nat.le_of_ble_eq_true rfl, Nat.le_of_ble_eq_true rfl⟩ d_M_burn_94 ⟨Nat.le_refl _, Nat.le_refl _⟩ (fun H locs hP hD hS => ?_)
    have hP : va_P (dC, dI) classes (wm g1 g2 g3 g4 g5 g6 g7 aM m1 m2 m3 m4 m5 m6 m7 d n kd ht tk (upd so i ((bFlare d x σ).2).1) lt sto ni ac bl ((bFlare d x σ).2).2) H := hP
    have hD : va_D A (wm g1 g2 g3 g4 g5 g6 g7 aM m1 m2 m3 m4 m5 m6 m7 d n kd ht tk (upd so i ((bFlare d x σ).2).1) lt sto ni ac bl ((bFlare d x σ).2).2) := hD
    exact zri E hK hP hD hS d_M_burn_97
  · refine zM_of "CoastLampsModel" rfl (by decide) (Nat.le_of_ble_eq_true rfl) ?_
    intro p e s m below meth c ls E hP hK hD hS hl
    obtain ⟨hx, hb, hml, ho, hts, hr, hlk⟩ := id E
    have hl : lv_has ls 3 [(0, .ref aM), (1, .int (nI i)), (2, .int x)] := hl
    refine lv_aload_n hx hb d_M_burn_0 rfl (lv_at hl 0 rfl) ?_
    refine zget (ci := 11) (fs := [.ref m1, .int (nI n), .ref m2, .ref m3, .ref m4, .ref m5, .ref m6, .long sto, .int ni, .int ac, .int bl, .ref m7, .int (nI σ.2.2.1)]) E hK hP 0 rfl zC_M 2 (by decide) kw_592 (Or.inl rfl) rfl d_M_burn_1 ?_
    refine lv_iload_n hx hb d_M_burn_4 rfl (lv_at hl 1 rfl) ?_
    refine va_iald hx hb hK hP 2 1 rfl rfl (vp_in_nI hi (by decide)) d_M_burn_5 ?_
    rw [nI_clamp (i31 hi)]
    rw [hkd]
    refine lv_tableIn (off := 78) (tgt := 84) hx hb d_M_burn_6 (by decide) (by decide) (by decide) (by decide) ?_
    refine lv_aload_n hx hb d_M_burn_84 rfl (lv_at hl 0 rfl) ?_
    refine lv_iload_n hx hb d_M_burn_85 rfl (lv_at hl 1 rfl) ?_
    refine lv_iload_n hx hb d_M_burn_86 rfl (lv_at hl 2 rfl) ?_
    refine zcV (As := [.int (nI i), .int x]) (rest := []) (ci := 11) E cy_M_burnOuter kw_686 ks_13 kw_684 (c_M_burnOuter l dC dI g1 g2 g3 g4 g5 g6 g7 A aM m1 m2 m3 m4 m5 m6 m7 d n kd ht tk so lt sto ni ac bl i hi σ x) hK hP hD hS 0 rfl zC_M.1 rfl rfl hl.1 rfl (Nat.le_of_ble_eq_true rfl) ⟨Nat.le_of_ble_eq_true rfl, Nat.le_of_ble_eq_true rfl⟩ d_M_burn_87 ⟨Nat.le_refl _, Nat.le_refl _⟩ (fun H locs hP hD hS => ?_)
    have hP : va_P (dC, dI) classes (wm g1 g2 g3 g4 g5 g6 g7 aM m1 m2 m3 m4 m5 m6 m7 d n kd ht tk (upd so i ((bOuter d x σ).2).1) lt sto ni ac bl ((bOuter d x σ).2).2) H := hP
    have hD : va_D A (wm g1 g2 g3 g4 g5 g6 g7 aM m1 m2 m3 m4 m5 m6 m7 d n kd ht tk (upd so i ((bOuter d x σ).2).1) lt sto ni ac bl ((bOuter d x σ).2).2) := hD
    exact zri E hK hP hD hS d_M_burn_90
set_option maxHeartbeats 1000000 in
set_option maxRecDepth 100000 in
theorem c_M_reach (l : Launch) (dC : Nat → ClassId) (dI : Nat → Nat → Nat) (g1 g2 g3 g4 g5 g6 g7 : ClassId) (A : Nat → Prop) (aM m1 m2 m3 m4 m5 m6 m7 : Nat) (d : Nat → Int32) (n : Nat) (kd ht tk so lt : Nat → Int32) (sto : Int64) (ni ac bl : Int32) (i : Nat) (hi : i < 60) (σ : zS) (k : Nat) (hk : k < 9) (hkd : kd i = nI (k + 1)) (x : Int32) : zM l y_M_reach b_M_reach 3 (some (FieldType.int)) 5 111 [.ref aM, .int (nI i), .int x] (dC, dI) (t7 g1 g2 g3 g4 g5 g6 g7) A (wm g1 g2 g3 g4 g5 g6 g7 aM m1 m2 m3 m4 m5 m6 m7 d n kd ht tk (upd so i σ.1) lt sto ni ac bl σ.2) (wm g1 g2 g3 g4 g5 g6 g7 aM m1 m2 m3 m4 m5 m6 m7 d n kd ht tk (upd so i (reachK k d (ht i) x σ).2.1) lt sto ni ac bl (reachK k d (ht i) x σ).2.2) (some (.int (reachK k d (ht i) x σ).1)) := by
  rcases (show k = 0 ∨ k = 1 ∨ k = 2 ∨ k = 3 ∨ k = 4 ∨ k = 5 ∨ k = 6 ∨ k = 7 ∨ k = 8 by omega) with rfl | rfl | rfl | rfl | rfl | rfl | rfl | rfl | rfl
  · refine zM_of "CoastLampsModel" rfl (by decide) (Nat.le_of_ble_eq_true rfl) ?_
    intro p e s m below meth c ls E hP hK hD hS hl
    obtain ⟨hx, hb, hml, ho, hts, hr, hlk⟩ := id E
    have hl : lv_has ls 3 [(0, .ref aM), (1, .int (nI i)), (2, .int x)] := hl
    refine lv_aload_n hx hb d_M_reach_0 rfl (lv_at hl 0 rfl) ?_
    refine zget (ci := 11) (fs := [.ref m1, .int (nI n), .ref m2, .ref m3, .ref m4, .ref m5, .ref m6, .long sto, .int ni, .int ac, .int bl, .ref m7, .int (nI σ.2.2.1)]) E hK hP 0 rfl zC_M 2 (by decide) kw_592 (Or.inl rfl) rfl d_M_reach_1 ?_
    refine lv_iload_n hx hb d_M_reach_4 rfl (lv_at hl 1 rfl) ?_
    refine va_iald hx hb hK hP 2 1 rfl rfl (vp_in_nI hi (by decide)) d_M_reach_5 ?_
    rw [nI_clamp (i31 hi)]
    rw [hkd]
    refine lv_tableIn (off := 42) (tgt := 48) hx hb d_M_reach_6 (by decide) (by decide) (by decide) (by decide) ?_
    refine lv_aload_n hx hb d_M_reach_48 rfl (lv_at hl 0 rfl) ?_
    refine lv_iload_n hx hb d_M_reach_49 rfl (lv_at hl 1 rfl) ?_
    refine lv_iload_n hx hb d_M_reach_50 rfl (lv_at hl 2 rfl) ?_
    refine zcV (As := [.int (nI i), .int x]) (rest := []) (ci := 11) E cy_M_reachLamp kw_698 ks_16 kw_696 (c_M_reachLamp l dC dI g1 g2 g3 g4 g5 g6 g7 A aM m1 m2 m3 m4 m5 m6 m7 d n kd ht tk so lt sto ni ac bl i hi σ x) hK hP hD hS 0 rfl zC_M.1 rfl rfl hl.1 rfl (Nat.le_of_ble_eq_true rfl) ⟨Nat.le_of_ble_eq_true rfl, Nat.le_of_ble_eq_true rfl⟩ d_M_reach_51 ⟨Nat.le_refl _, Nat.le_refl _⟩ (fun H locs hP hD hS => ?_)
    have hP : va_P (dC, dI) classes (wm g1 g2 g3 g4 g5 g6 g7 aM m1 m2 m3 m4 m5 m6 m7 d n kd ht tk (upd so i ((rLamp (ht i) x σ).2).1) lt sto ni ac bl ((rLamp (ht i) x σ).2).2) H := hP
    have hD : va_D A (wm g1 g2 g3 g4 g5 g6 g7 aM m1 m2 m3 m4 m5 m6 m7 d n kd ht tk (upd so i ((rLamp (ht i) x σ).2).1) lt sto ni ac bl ((rLamp (ht i) x σ).2).2) := hD
    exact zri E hK hP hD hS d_M_reach_54
  · refine zM_of "CoastLampsModel" rfl (by decide) (Nat.le_of_ble_eq_true rfl) ?_
    intro p e s m below meth c ls E hP hK hD hS hl
    obtain ⟨hx, hb, hml, ho, hts, hr, hlk⟩ := id E
    have hl : lv_has ls 3 [(0, .ref aM), (1, .int (nI i)), (2, .int x)] := hl
    refine lv_aload_n hx hb d_M_reach_0 rfl (lv_at hl 0 rfl) ?_
    refine zget (ci := 11) (fs := [.ref m1, .int (nI n), .ref m2, .ref m3, .ref m4, .ref m5, .ref m6, .long sto, .int ni, .int ac, .int bl, .ref m7, .int (nI σ.2.2.1)]) E hK hP 0 rfl zC_M 2 (by decide) kw_592 (Or.inl rfl) rfl d_M_reach_1 ?_
    refine lv_iload_n hx hb d_M_reach_4 rfl (lv_at hl 1 rfl) ?_
    refine va_iald hx hb hK hP 2 1 rfl rfl (vp_in_nI hi (by decide)) d_M_reach_5 ?_
    rw [nI_clamp (i31 hi)]
    rw [hkd]
    refine lv_tableIn (off := 49) (tgt := 55) hx hb d_M_reach_6 (by decide) (by decide) (by decide) (by decide) ?_
    refine lv_aload_n hx hb d_M_reach_55 rfl (lv_at hl 0 rfl) ?_
    refine lv_iload_n hx hb d_M_reach_56 rfl (lv_at hl 1 rfl) ?_
    refine lv_iload_n hx hb d_M_reach_57 rfl (lv_at hl 2 rfl) ?_
    refine zcV (As := [.int (nI i), .int x]) (rest := []) (ci := 11) E cy_M_reachRound kw_702 ks_17 kw_700 (c_M_reachRound l dC dI g1 g2 g3 g4 g5 g6 g7 A aM m1 m2 m3 m4 m5 m6 m7 d n kd ht tk so lt sto ni ac bl i hi σ x) hK hP hD hS 0 rfl zC_M.1 rfl rfl hl.1 rfl (Nat.le_of_ble_eq_true rfl) ⟨Nat.le_of_ble_eq_true rfl, Nat.le_of_ble_eq_true rfl⟩ d_M_reach_58 ⟨Nat.le_refl _, Nat.le_refl _⟩ (fun H locs hP hD hS => ?_)
    have hP : va_P (dC, dI) classes (wm g1 g2 g3 g4 g5 g6 g7 aM m1 m2 m3 m4 m5 m6 m7 d n kd ht tk (upd so i ((rRound d (ht i) x σ).2).1) lt sto ni ac bl ((rRound d (ht i) x σ).2).2) H := hP
    have hD : va_D A (wm g1 g2 g3 g4 g5 g6 g7 aM m1 m2 m3 m4 m5 m6 m7 d n kd ht tk (upd so i ((rRound d (ht i) x σ).2).1) lt sto ni ac bl ((rRound d (ht i) x σ).2).2) := hD
    exact zri E hK hP hD hS d_M_reach_61
  · refine zM_of "CoastLampsModel" rfl (by decide) (Nat.le_of_ble_eq_true rfl) ?_
    intro p e s m below meth c ls E hP hK hD hS hl
    obtain ⟨hx, hb, hml, ho, hts, hr, hlk⟩ := id E
    have hl : lv_has ls 3 [(0, .ref aM), (1, .int (nI i)), (2, .int x)] := hl
    refine lv_aload_n hx hb d_M_reach_0 rfl (lv_at hl 0 rfl) ?_
    refine zget (ci := 11) (fs := [.ref m1, .int (nI n), .ref m2, .ref m3, .ref m4, .ref m5, .ref m6, .long sto, .int ni, .int ac, .int bl, .ref m7, .int (nI σ.2.2.1)]) E hK hP 0 rfl zC_M 2 (by decide) kw_592 (Or.inl rfl) rfl d_M_reach_1 ?_
    refine lv_iload_n hx hb d_M_reach_4 rfl (lv_at hl 1 rfl) ?_
    refine va_iald hx hb hK hP 2 1 rfl rfl (vp_in_nI hi (by decide)) d_M_reach_5 ?_
    rw [nI_clamp (i31 hi)]
    rw [hkd]
    refine lv_tableIn (off := 56) (tgt := 62) hx hb d_M_reach_6 (by decide) (by decide) (by decide) (by decide) ?_
    refine lv_aload_n hx hb d_M_reach_62 rfl (lv_at hl 0 rfl) ?_
    refine lv_iload_n hx hb d_M_reach_63 rfl (lv_at hl 1 rfl) ?_
    refine lv_iload_n hx hb d_M_reach_64 rfl (lv_at hl 2 rfl) ?_
    refine zcV (As := [.int (nI i), .int x]) (rest := []) (ci := 11) E cy_M_reachTwin kw_706 ks_18 kw_704 (c_M_reachTwin l dC dI g1 g2 g3 g4 g5 g6 g7 A aM m1 m2 m3 m4 m5 m6 m7 d n kd ht tk so lt sto ni ac bl i hi σ x) hK hP hD hS 0 rfl zC_M.1 rfl rfl hl.1 rfl (Nat.le_of_ble_eq_true rfl) ⟨Nat.le_of_ble_eq_true rfl, Nat.le_of_ble_eq_true rfl⟩ d_M_reach_65 ⟨Nat.le_refl _, Nat.le_refl _⟩ (fun H locs hP hD hS => ?_)
    have hP : va_P (dC, dI) classes (wm g1 g2 g3 g4 g5 g6 g7 aM m1 m2 m3 m4 m5 m6 m7 d n kd ht tk (upd so i ((rTwin d (ht i) x σ).2).1) lt sto ni ac bl ((rTwin d (ht i) x σ).2).2) H := hP
    have hD : va_D A (wm g1 g2 g3 g4 g5 g6 g7 aM m1 m2 m3 m4 m5 m6 m7 d n kd ht tk (upd so i ((rTwin d (ht i) x σ).2).1) lt sto ni ac bl ((rTwin d (ht i) x σ).2).2) := hD
    exact zri E hK hP hD hS d_M_reach_68
  · refine zM_of "CoastLampsModel" rfl (by decide) (Nat.le_of_ble_eq_true rfl) ?_
    intro p e s m below meth c ls E hP hK hD hS hl
    obtain ⟨hx, hb, hml, ho, hts, hr, hlk⟩ := id E
    have hl : lv_has ls 3 [(0, .ref aM), (1, .int (nI i)), (2, .int x)] := hl
    refine lv_aload_n hx hb d_M_reach_0 rfl (lv_at hl 0 rfl) ?_
    refine zget (ci := 11) (fs := [.ref m1, .int (nI n), .ref m2, .ref m3, .ref m4, .ref m5, .ref m6, .long sto, .int ni, .int ac, .int bl, .ref m7, .int (nI σ.2.2.1)]) E hK hP 0 rfl zC_M 2 (by decide) kw_592 (Or.inl rfl) rfl d_M_reach_1 ?_
    refine lv_iload_n hx hb d_M_reach_4 rfl (lv_at hl 1 rfl) ?_
    refine va_iald hx hb hK hP 2 1 rfl rfl (vp_in_nI hi (by decide)) d_M_reach_5 ?_
    rw [nI_clamp (i31 hi)]
    rw [hkd]
    refine lv_tableIn (off := 63) (tgt := 69) hx hb d_M_reach_6 (by decide) (by decide) (by decide) (by decide) ?_
    refine lv_aload_n hx hb d_M_reach_69 rfl (lv_at hl 0 rfl) ?_
    refine lv_iload_n hx hb d_M_reach_70 rfl (lv_at hl 1 rfl) ?_
    refine lv_iload_n hx hb d_M_reach_71 rfl (lv_at hl 2 rfl) ?_
    refine zcV (As := [.int (nI i), .int x]) (rest := []) (ci := 11) E cy_M_reachDrum kw_710 ks_19 kw_708 (c_M_reachDrum l dC dI g1 g2 g3 g4 g5 g6 g7 A aM m1 m2 m3 m4 m5 m6 m7 d n kd ht tk so lt sto ni ac bl i hi σ x) hK hP hD hS 0 rfl zC_M.1 rfl rfl hl.1 rfl (Nat.le_of_ble_eq_true rfl) ⟨Nat.le_of_ble_eq_true rfl, Nat.le_of_ble_eq_true rfl⟩ d_M_reach_72 ⟨Nat.le_refl _, Nat.le_refl _⟩ (fun H locs hP hD hS => ?_)
    have hP : va_P (dC, dI) classes (wm g1 g2 g3 g4 g5 g6 g7 aM m1 m2 m3 m4 m5 m6 m7 d n kd ht tk (upd so i ((rDrum d (ht i) x σ).2).1) lt sto ni ac bl ((rDrum d (ht i) x σ).2).2) H := hP
    have hD : va_D A (wm g1 g2 g3 g4 g5 g6 g7 aM m1 m2 m3 m4 m5 m6 m7 d n kd ht tk (upd so i ((rDrum d (ht i) x σ).2).1) lt sto ni ac bl ((rDrum d (ht i) x σ).2).2) := hD
    exact zri E hK hP hD hS d_M_reach_75
  · refine zM_of "CoastLampsModel" rfl (by decide) (Nat.le_of_ble_eq_true rfl) ?_
    intro p e s m below meth c ls E hP hK hD hS hl
    obtain ⟨hx, hb, hml, ho, hts, hr, hlk⟩ := id E
    have hl : lv_has ls 3 [(0, .ref aM), (1, .int (nI i)), (2, .int x)] := hl
    refine lv_aload_n hx hb d_M_reach_0 rfl (lv_at hl 0 rfl) ?_
    refine zget (ci := 11) (fs := [.ref m1, .int (nI n), .ref m2, .ref m3, .ref m4, .ref m5, .ref m6, .long sto, .int ni, .int ac, .int bl, .ref m7, .int (nI σ.2.2.1)]) E hK hP 0 rfl zC_M 2 (by decide) kw_592 (Or.inl rfl) rfl d_M_reach_1 ?_
    refine lv_iload_n hx hb d_M_reach_4 rfl (lv_at hl 1 rfl) ?_
    refine va_iald hx hb hK hP 2 1 rfl rfl (vp_in_nI hi (by decide)) d_M_reach_5 ?_
    rw [nI_clamp (i31 hi)]
    rw [hkd]
    refine lv_tableIn (off := 63) (tgt := 69) hx hb d_M_reach_6 (by decide) (by decide) (by decide) (by decide) ?_
    refine lv_aload_n hx hb d_M_reach_69 rfl (lv_at hl 0 rfl) ?_
    refine lv_iload_n hx hb d_M_reach_70 rfl (lv_at hl 1 rfl) ?_
    refine lv_iload_n hx hb d_M_reach_71 rfl (lv_at hl 2 rfl) ?_
    refine zcV (As := [.int (nI i), .int x]) (rest := []) (ci := 11) E cy_M_reachDrum kw_710 ks_19 kw_708 (c_M_reachDrum l dC dI g1 g2 g3 g4 g5 g6 g7 A aM m1 m2 m3 m4 m5 m6 m7 d n kd ht tk so lt sto ni ac bl i hi σ x) hK hP hD hS 0 rfl zC_M.1 rfl rfl hl.1 rfl (Nat.le_of_ble_eq_true rfl) ⟨Nat.le_of_ble_eq_true rfl, Nat.le_of_ble_eq_true rfl⟩ d_M_reach_72 ⟨Nat.le_refl _, Nat.le_refl _⟩ (fun H locs hP hD hS => ?_)
    have hP : va_P (dC, dI) classes (wm g1 g2 g3 g4 g5 g6 g7 aM m1 m2 m3 m4 m5 m6 m7 d n kd ht tk (upd so i ((rDrum d (ht i) x σ).2).1) lt sto ni ac bl ((rDrum d (ht i) x σ).2).2) H := hP
    have hD : va_D A (wm g1 g2 g3 g4 g5 g6 g7 aM m1 m2 m3 m4 m5 m6 m7 d n kd ht tk (upd so i ((rDrum d (ht i) x σ).2).1) lt sto ni ac bl ((rDrum d (ht i) x σ).2).2) := hD
    exact zri E hK hP hD hS d_M_reach_75
  · refine zM_of "CoastLampsModel" rfl (by decide) (Nat.le_of_ble_eq_true rfl) ?_
    intro p e s m below meth c ls E hP hK hD hS hl
    obtain ⟨hx, hb, hml, ho, hts, hr, hlk⟩ := id E
    have hl : lv_has ls 3 [(0, .ref aM), (1, .int (nI i)), (2, .int x)] := hl
    refine lv_aload_n hx hb d_M_reach_0 rfl (lv_at hl 0 rfl) ?_
    refine zget (ci := 11) (fs := [.ref m1, .int (nI n), .ref m2, .ref m3, .ref m4, .ref m5, .ref m6, .long sto, .int ni, .int ac, .int bl, .ref m7, .int (nI σ.2.2.1)]) E hK hP 0 rfl zC_M 2 (by decide) kw_592 (Or.inl rfl) rfl d_M_reach_1 ?_
    refine lv_iload_n hx hb d_M_reach_4 rfl (lv_at hl 1 rfl) ?_
    refine va_iald hx hb hK hP 2 1 rfl rfl (vp_in_nI hi (by decide)) d_M_reach_5 ?_
    rw [nI_clamp (i31 hi)]
    rw [hkd]
    refine lv_tableIn (off := 70) (tgt := 76) hx hb d_M_reach_6 (by decide) (by decide) (by decide) (by decide) ?_
    refine lv_aload_n hx hb d_M_reach_76 rfl (lv_at hl 0 rfl) ?_
    refine lv_iload_n hx hb d_M_reach_77 rfl (lv_at hl 1 rfl) ?_
    refine lv_iload_n hx hb d_M_reach_78 rfl (lv_at hl 2 rfl) ?_
    refine zcV (As := [.int (nI i), .int x]) (rest := []) (ci := 11) E cy_M_reachGas kw_714 ks_20 kw_712 (c_M_reachGas l dC dI g1 g2 g3 g4 g5 g6 g7 A aM m1 m2 m3 m4 m5 m6 m7 d n kd ht tk so lt sto ni ac bl i hi σ x) hK hP hD hS 0 rfl zC_M.1 rfl rfl hl.1 rfl (Nat.le_of_ble_eq_true rfl) ⟨Nat.le_of_ble_eq_true rfl, Nat.le_of_ble_eq_true rfl⟩ d_M_reach_79 ⟨Nat.le_refl _, Nat.le_refl _⟩ (fun H locs hP hD hS => ?_)
    have hP : va_P (dC, dI) classes (wm g1 g2 g3 g4 g5 g6 g7 aM m1 m2 m3 m4 m5 m6 m7 d n kd ht tk (upd so i ((rGas (ht i) x σ).2).1) lt sto ni ac bl ((rGas (ht i) x σ).2).2) H := hP
    have hD : va_D A (wm g1 g2 g3 g4 g5 g6 g7 aM m1 m2 m3 m4 m5 m6 m7 d n kd ht tk (upd so i ((rGas (ht i) x σ).2).1) lt sto ni ac bl ((rGas (ht i) x σ).2).2) := hD
    exact zri E hK hP hD hS d_M_reach_82
  · refine zM_of "CoastLampsModel" rfl (by decide) (Nat.le_of_ble_eq_true rfl) ?_
    intro p e s m below meth c ls E hP hK hD hS hl
    obtain ⟨hx, hb, hml, ho, hts, hr, hlk⟩ := id E
    have hl : lv_has ls 3 [(0, .ref aM), (1, .int (nI i)), (2, .int x)] := hl
    refine lv_aload_n hx hb d_M_reach_0 rfl (lv_at hl 0 rfl) ?_
    refine zget (ci := 11) (fs := [.ref m1, .int (nI n), .ref m2, .ref m3, .ref m4, .ref m5, .ref m6, .long sto, .int ni, .int ac, .int bl, .ref m7, .int (nI σ.2.2.1)]) E hK hP 0 rfl zC_M 2 (by decide) kw_592 (Or.inl rfl) rfl d_M_reach_1 ?_
    refine lv_iload_n hx hb d_M_reach_4 rfl (lv_at hl 1 rfl) ?_
    refine va_iald hx hb hK hP 2 1 rfl rfl (vp_in_nI hi (by decide)) d_M_reach_5 ?_
    rw [nI_clamp (i31 hi)]
    rw [hkd]
    refine lv_tableIn (off := 70) (tgt := 76) hx hb d_M_reach_6 (by decide) (by decide) (by decide) (by decide) ?_
    refine lv_aload_n hx hb d_M_reach_76 rfl (lv_at hl 0 rfl) ?_
    refine lv_iload_n hx hb d_M_reach_77 rfl (lv_at hl 1 rfl) ?_
    refine lv_iload_n hx hb d_M_reach_78 rfl (lv_at hl 2 rfl) ?_
    refine zcV (As := [.int (nI i), .int x]) (rest := []) (ci := 11) E cy_M_reachGas kw_714 ks_20 kw_712 (c_M_reachGas l dC dI g1 g2 g3 g4 g5 g6 g7 A aM m1 m2 m3 m4 m5 m6 m7 d n kd ht tk so lt sto ni ac bl i hi σ x) hK hP hD hS 0 rfl zC_M.1 rfl rfl hl.1 rfl (Nat.le_of_ble_eq_true rfl) ⟨Nat.le_of_ble_eq_true rfl, Nat.le_of_ble_eq_true rfl⟩ d_M_reach_79 ⟨Nat.le_refl _, Nat.le_refl _⟩ (fun H locs hP hD hS => ?_)
    have hP : va_P (dC, dI) classes (wm g1 g2 g3 g4 g5 g6 g7 aM m1 m2 m3 m4 m5 m6 m7 d n kd ht tk (upd so i ((rGas (ht i) x σ).2).1) lt sto ni ac bl ((rGas (ht i) x σ).2).2) H := hP
    have hD : va_D A (wm g1 g2 g3 g4 g5 g6 g7 aM m1 m2 m3 m4 m5 m6 m7 d n kd ht tk (upd so i ((rGas (ht i) x σ).2).1) lt sto ni ac bl ((rGas (ht i) x σ).2).2) := hD
    exact zri E hK hP hD hS d_M_reach_82
  · refine zM_of "CoastLampsModel" rfl (by decide) (Nat.le_of_ble_eq_true rfl) ?_
    intro p e s m below meth c ls E hP hK hD hS hl
    obtain ⟨hx, hb, hml, ho, hts, hr, hlk⟩ := id E
    have hl : lv_has ls 3 [(0, .ref aM), (1, .int (nI i)), (2, .int x)] := hl
    refine lv_aload_n hx hb d_M_reach_0 rfl (lv_at hl 0 rfl) ?_
    refine zget (ci := 11) (fs := [.ref m1, .int (nI n), .ref m2, .ref m3, .ref m4, .ref m5, .ref m6, .long sto, .int ni, .int ac, .int bl, .ref m7, .int (nI σ.2.2.1)]) E hK hP 0 rfl zC_M 2 (by decide) kw_592 (Or.inl rfl) rfl d_M_reach_1 ?_
    refine lv_iload_n hx hb d_M_reach_4 rfl (lv_at hl 1 rfl) ?_
    refine va_iald hx hb hK hP 2 1 rfl rfl (vp_in_nI hi (by decide)) d_M_reach_5 ?_
    rw [nI_clamp (i31 hi)]
    rw [hkd]
    refine lv_tableOut (tgt := 83) hx hb d_M_reach_6 (by decide) (by decide) ?_
    refine lv_aload_n hx hb d_M_reach_83 rfl (lv_at hl 0 rfl) ?_
    refine lv_iload_n hx hb d_M_reach_84 rfl (lv_at hl 1 rfl) ?_
    refine lv_iload_n hx hb d_M_reach_85 rfl (lv_at hl 2 rfl) ?_
    refine zcV (As := [.int (nI i), .int x]) (rest := []) (ci := 11) E cy_M_reachBuoy kw_718 ks_21 kw_716 (c_M_reachBuoy l dC dI g1 g2 g3 g4 g5 g6 g7 A aM m1 m2 m3 m4 m5 m6 m7 d n kd ht tk so lt sto ni ac bl i hi σ x) hK hP hD hS 0 rfl zC_M.1 rfl rfl hl.1 rfl (Nat.le_of_ble_eq_true rfl) ⟨Nat.le_of_ble_eq_true rfl, Nat.le_of_ble_eq_true rfl⟩ d_M_reach_86 ⟨Nat.le_refl _, Nat.le_refl _⟩ (fun H locs hP hD hS => ?_)
    have hP : va_P (dC, dI) classes (wm g1 g2 g3 g4 g5 g6 g7 aM m1 m2 m3 m4 m5 m6 m7 d n kd ht tk (upd so i ((rBuoy (ht i) x σ).2).1) lt sto ni ac bl ((rBuoy (ht i) x σ).2).2) H := hP
    have hD : va_D A (wm g1 g2 g3 g4 g5 g6 g7 aM m1 m2 m3 m4 m5 m6 m7 d n kd ht tk (upd so i ((rBuoy (ht i) x σ).2).1) lt sto ni ac bl ((rBuoy (ht i) x σ).2).2) := hD
    exact zri E hK hP hD hS d_M_reach_89
  · refine zM_of "CoastLampsModel" rfl (by decide) (Nat.le_of_ble_eq_true rfl) ?_
    intro p e s m below meth c ls E hP hK hD hS hl
    obtain ⟨hx, hb, hml, ho, hts, hr, hlk⟩ := id E
    have hl : lv_has ls 3 [(0, .ref aM), (1, .int (nI i)), (2, .int x)] := hl
    refine lv_aload_n hx hb d_M_reach_0 rfl (lv_at hl 0 rfl) ?_
    refine zget (ci := 11) (fs := [.ref m1, .int (nI n), .ref m2, .ref m3, .ref m4, .ref m5, .ref m6, .long sto, .int ni, .int ac, .int bl, .ref m7, .int (nI σ.2.2.1)]) E hK hP 0 rfl zC_M 2 (by decide) kw_592 (Or.inl rfl) rfl d_M_reach_1 ?_
    refine lv_iload_n hx hb d_M_reach_4 rfl (lv_at hl 1 rfl) ?_
    refine va_iald hx hb hK hP 2 1 rfl rfl (vp_in_nI hi (by decide)) d_M_reach_5 ?_
    rw [nI_clamp (i31 hi)]
    rw [hkd]
    refine lv_tableOut (tgt := 83) hx hb d_M_reach_6 (by decide) (by decide) ?_
    refine lv_aload_n hx hb d_M_reach_83 rfl (lv_at hl 0 rfl) ?_
    refine lv_iload_n hx hb d_M_reach_84 rfl (lv_at hl 1 rfl) ?_
    refine lv_iload_n hx hb d_M_reach_85 rfl (lv_at hl 2 rfl) ?_
    refine zcV (As := [.int (nI i), .int x]) (rest := []) (ci := 11) E cy_M_reachBuoy kw_718 ks_21 kw_716 (c_M_reachBuoy l dC dI g1 g2 g3 g4 g5 g6 g7 A aM m1 m2 m3 m4 m5 m6 m7 d n kd ht tk so lt sto ni ac bl i hi σ x) hK hP hD hS 0 rfl zC_M.1 rfl rfl hl.1 rfl (Nat.le_of_ble_eq_true rfl) ⟨Nat.le_of_ble_eq_true rfl, Nat.le_of_ble_eq_true rfl⟩ d_M_reach_86 ⟨Nat.le_refl _, Nat.le_refl _⟩ (fun H locs hP hD hS => ?_)
    have hP : va_P (dC, dI) classes (wm g1 g2 g3 g4 g5 g6 g7 aM m1 m2 m3 m4 m5 m6 m7 d n kd ht tk (upd so i ((rBuoy (ht i) x σ).2).1) lt sto ni ac bl ((rBuoy (ht i) x σ).2).2) H := hP
    have hD : va_D A (wm g1 g2 g3 g4 g5 g6 g7 aM m1 m2 m3 m4 m5 m6 m7 d n kd ht tk (upd so i ((rBuoy (ht i) x σ).2).1) lt sto ni ac bl ((rBuoy (ht i) x σ).2).2) := hD
    exact zri E hK hP hD hS d_M_reach_89
set_option maxHeartbeats 1000000 in
set_option maxRecDepth 100000 in
theorem c_M_flash (l : Launch) (dC : Nat → ClassId) (dI : Nat → Nat → Nat) (g1 g2 g3 g4 g5 g6 g7 : ClassId) (A : Nat → Prop) (aM m1 m2 m3 m4 m5 m6 m7 : Nat) (d : Nat → Int32) (n : Nat) (kd ht tk so lt : Nat → Int32) (sto : Int64) (ni ac bl : Int32) (i : Nat) (hi : i < 60) (σ : zS) (k : Nat) (hk : k < 9) (hkd : kd i = nI (k + 1)) (x : Int32) : zM l y_M_flash b_M_flash 3 (some (FieldType.int)) 4 84 [.ref aM, .int (nI i), .int x] (dC, dI) (t7 g1 g2 g3 g4 g5 g6 g7) A (wm g1 g2 g3 g4 g5 g6 g7 aM m1 m2 m3 m4 m5 m6 m7 d n kd ht tk (upd so i σ.1) lt sto ni ac bl σ.2) (wm g1 g2 g3 g4 g5 g6 g7 aM m1 m2 m3 m4 m5 m6 m7 d n kd ht tk (upd so i (flashK k x σ).2.1) lt sto ni ac bl (flashK k x σ).2.2) (some (.int (flashK k x σ).1)) := by
  rcases (show k = 0 ∨ k = 1 ∨ k = 2 ∨ k = 3 ∨ k = 4 ∨ k = 5 ∨ k = 6 ∨ k = 7 ∨ k = 8 by omega) with rfl | rfl | rfl | rfl | rfl | rfl | rfl | rfl | rfl
  · refine zM_of "CoastLampsModel" rfl (by decide) (Nat.le_of_ble_eq_true rfl) ?_
    intro p e s m below meth c ls E hP hK hD hS hl
    obtain ⟨hx, hb, hml, ho, hts, hr, hlk⟩ := id E
    have hl : lv_has ls 3 [(0, .ref aM), (1, .int (nI i)), (2, .int x)] := hl
    refine lv_aload_n hx hb d_M_flash_0 rfl (lv_at hl 0 rfl) ?_
    refine zget (ci := 11) (fs := [.ref m1, .int (nI n), .ref m2, .ref m3, .ref m4, .ref m5, .ref m6, .long sto, .int ni, .int ac, .int bl, .ref m7, .int (nI σ.2.2.1)]) E hK hP 0 rfl zC_M 2 (by decide) kw_592 (Or.inl rfl) rfl d_M_flash_1 ?_
    refine lv_iload_n hx hb d_M_flash_4 rfl (lv_at hl 1 rfl) ?_
    refine va_iald hx hb hK hP 2 1 rfl rfl (vp_in_nI hi (by decide)) d_M_flash_5 ?_
    rw [nI_clamp (i31 hi)]
    rw [hkd]
    refine lv_tableOut (tgt := 72) hx hb d_M_flash_6 (by decide) (by decide) ?_
    refine lv_aload_n hx hb d_M_flash_72 rfl (lv_at hl 0 rfl) ?_
    refine zcV (As := []) (rest := []) (ci := 11) E cy_M_flashLamp kw_730 ks_24 kw_728 (c_M_flashLamp l dC dI g1 g2 g3 g4 g5 g6 g7 A aM m1 m2 m3 m4 m5 m6 m7 d n kd ht tk so lt sto ni ac bl i hi σ) hK hP hD hS 0 rfl zC_M.1 rfl rfl hl.1 rfl (Nat.le_of_ble_eq_true rfl) ⟨Nat.le_of_ble_eq_true rfl, Nat.le_of_ble_eq_true rfl⟩ d_M_flash_73 ⟨Nat.le_refl _, Nat.le_refl _⟩ (fun H locs hP hD hS => ?_)
    have hP : va_P (dC, dI) classes (wm g1 g2 g3 g4 g5 g6 g7 aM m1 m2 m3 m4 m5 m6 m7 d n kd ht tk (upd so i ((fLamp σ).2).1) lt sto ni ac bl ((fLamp σ).2).2) H := hP
    have hD : va_D A (wm g1 g2 g3 g4 g5 g6 g7 aM m1 m2 m3 m4 m5 m6 m7 d n kd ht tk (upd so i ((fLamp σ).2).1) lt sto ni ac bl ((fLamp σ).2).2) := hD
    exact zri E hK hP hD hS d_M_flash_76
  · refine zM_of "CoastLampsModel" rfl (by decide) (Nat.le_of_ble_eq_true rfl) ?_
    intro p e s m below meth c ls E hP hK hD hS hl
    obtain ⟨hx, hb, hml, ho, hts, hr, hlk⟩ := id E
    have hl : lv_has ls 3 [(0, .ref aM), (1, .int (nI i)), (2, .int x)] := hl
    refine lv_aload_n hx hb d_M_flash_0 rfl (lv_at hl 0 rfl) ?_
    refine zget (ci := 11) (fs := [.ref m1, .int (nI n), .ref m2, .ref m3, .ref m4, .ref m5, .ref m6, .long sto, .int ni, .int ac, .int bl, .ref m7, .int (nI σ.2.2.1)]) E hK hP 0 rfl zC_M 2 (by decide) kw_592 (Or.inl rfl) rfl d_M_flash_1 ?_
    refine lv_iload_n hx hb d_M_flash_4 rfl (lv_at hl 1 rfl) ?_
    refine va_iald hx hb hK hP 2 1 rfl rfl (vp_in_nI hi (by decide)) d_M_flash_5 ?_
    rw [nI_clamp (i31 hi)]
    rw [hkd]
    refine lv_tableOut (tgt := 72) hx hb d_M_flash_6 (by decide) (by decide) ?_
    refine lv_aload_n hx hb d_M_flash_72 rfl (lv_at hl 0 rfl) ?_
    refine zcV (As := []) (rest := []) (ci := 11) E cy_M_flashLamp kw_730 ks_24 kw_728 (c_M_flashLamp l dC dI g1 g2 g3 g4 g5 g6 g7 A aM m1 m2 m3 m4 m5 m6 m7 d n kd ht tk so lt sto ni ac bl i hi σ) hK hP hD hS 0 rfl zC_M.1 rfl rfl hl.1 rfl (Nat.le_of_ble_eq_true rfl) ⟨Nat.le_of_ble_eq_true rfl, Nat.le_of_ble_eq_true rfl⟩ d_M_flash_73 ⟨Nat.le_refl _, Nat.le_refl _⟩ (fun H locs hP hD hS => ?_)
    have hP : va_P (dC, dI) classes (wm g1 g2 g3 g4 g5 g6 g7 aM m1 m2 m3 m4 m5 m6 m7 d n kd ht tk (upd so i ((fLamp σ).2).1) lt sto ni ac bl ((fLamp σ).2).2) H := hP
    have hD : va_D A (wm g1 g2 g3 g4 g5 g6 g7 aM m1 m2 m3 m4 m5 m6 m7 d n kd ht tk (upd so i ((fLamp σ).2).1) lt sto ni ac bl ((fLamp σ).2).2) := hD
    exact zri E hK hP hD hS d_M_flash_76
  · refine zM_of "CoastLampsModel" rfl (by decide) (Nat.le_of_ble_eq_true rfl) ?_
    intro p e s m below meth c ls E hP hK hD hS hl
    obtain ⟨hx, hb, hml, ho, hts, hr, hlk⟩ := id E
    have hl : lv_has ls 3 [(0, .ref aM), (1, .int (nI i)), (2, .int x)] := hl
    refine lv_aload_n hx hb d_M_flash_0 rfl (lv_at hl 0 rfl) ?_
    refine zget (ci := 11) (fs := [.ref m1, .int (nI n), .ref m2, .ref m3, .ref m4, .ref m5, .ref m6, .long sto, .int ni, .int ac, .int bl, .ref m7, .int (nI σ.2.2.1)]) E hK hP 0 rfl zC_M 2 (by decide) kw_592 (Or.inl rfl) rfl d_M_flash_1 ?_
    refine lv_iload_n hx hb d_M_flash_4 rfl (lv_at hl 1 rfl) ?_
    refine va_iald hx hb hK hP 2 1 rfl rfl (vp_in_nI hi (by decide)) d_M_flash_5 ?_
    rw [nI_clamp (i31 hi)]
    rw [hkd]
    refine lv_tableIn (off := 42) (tgt := 48) hx hb d_M_flash_6 (by decide) (by decide) (by decide) (by decide) ?_
    refine lv_aload_n hx hb d_M_flash_48 rfl (lv_at hl 0 rfl) ?_
    refine lv_iload_n hx hb d_M_flash_49 rfl (lv_at hl 2 rfl) ?_
    refine zcV (As := [.int x]) (rest := []) (ci := 11) E cy_M_flashTwin kw_726 ks_23 kw_724 (c_M_flashTwin l dC dI g1 g2 g3 g4 g5 g6 g7 A aM m1 m2 m3 m4 m5 m6 m7 d n kd ht tk so lt sto ni ac bl i hi σ x) hK hP hD hS 0 rfl zC_M.1 rfl rfl hl.1 rfl (Nat.le_of_ble_eq_true rfl) ⟨Nat.le_of_ble_eq_true rfl, Nat.le_of_ble_eq_true rfl⟩ d_M_flash_50 ⟨Nat.le_refl _, Nat.le_refl _⟩ (fun H locs hP hD hS => ?_)
    have hP : va_P (dC, dI) classes (wm g1 g2 g3 g4 g5 g6 g7 aM m1 m2 m3 m4 m5 m6 m7 d n kd ht tk (upd so i ((fTwin x σ).2).1) lt sto ni ac bl ((fTwin x σ).2).2) H := hP
    have hD : va_D A (wm g1 g2 g3 g4 g5 g6 g7 aM m1 m2 m3 m4 m5 m6 m7 d n kd ht tk (upd so i ((fTwin x σ).2).1) lt sto ni ac bl ((fTwin x σ).2).2) := hD
    exact zri E hK hP hD hS d_M_flash_53
  · refine zM_of "CoastLampsModel" rfl (by decide) (Nat.le_of_ble_eq_true rfl) ?_
    intro p e s m below meth c ls E hP hK hD hS hl
    obtain ⟨hx, hb, hml, ho, hts, hr, hlk⟩ := id E
    have hl : lv_has ls 3 [(0, .ref aM), (1, .int (nI i)), (2, .int x)] := hl
    refine lv_aload_n hx hb d_M_flash_0 rfl (lv_at hl 0 rfl) ?_
    refine zget (ci := 11) (fs := [.ref m1, .int (nI n), .ref m2, .ref m3, .ref m4, .ref m5, .ref m6, .long sto, .int ni, .int ac, .int bl, .ref m7, .int (nI σ.2.2.1)]) E hK hP 0 rfl zC_M 2 (by decide) kw_592 (Or.inl rfl) rfl d_M_flash_1 ?_
    refine lv_iload_n hx hb d_M_flash_4 rfl (lv_at hl 1 rfl) ?_
    refine va_iald hx hb hK hP 2 1 rfl rfl (vp_in_nI hi (by decide)) d_M_flash_5 ?_
    rw [nI_clamp (i31 hi)]
    rw [hkd]
    refine lv_tableIn (off := 42) (tgt := 48) hx hb d_M_flash_6 (by decide) (by decide) (by decide) (by decide) ?_
    refine lv_aload_n hx hb d_M_flash_48 rfl (lv_at hl 0 rfl) ?_
    refine lv_iload_n hx hb d_M_flash_49 rfl (lv_at hl 2 rfl) ?_
    refine zcV (As := [.int x]) (rest := []) (ci := 11) E cy_M_flashTwin kw_726 ks_23 kw_724 (c_M_flashTwin l dC dI g1 g2 g3 g4 g5 g6 g7 A aM m1 m2 m3 m4 m5 m6 m7 d n kd ht tk so lt sto ni ac bl i hi σ x) hK hP hD hS 0 rfl zC_M.1 rfl rfl hl.1 rfl (Nat.le_of_ble_eq_true rfl) ⟨Nat.le_of_ble_eq_true rfl, Nat.le_of_ble_eq_true rfl⟩ d_M_flash_50 ⟨Nat.le_refl _, Nat.le_refl _⟩ (fun H locs hP hD hS => ?_)
    have hP : va_P (dC, dI) classes (wm g1 g2 g3 g4 g5 g6 g7 aM m1 m2 m3 m4 m5 m6 m7 d n kd ht tk (upd so i ((fTwin x σ).2).1) lt sto ni ac bl ((fTwin x σ).2).2) H := hP
    have hD : va_D A (wm g1 g2 g3 g4 g5 g6 g7 aM m1 m2 m3 m4 m5 m6 m7 d n kd ht tk (upd so i ((fTwin x σ).2).1) lt sto ni ac bl ((fTwin x σ).2).2) := hD
    exact zri E hK hP hD hS d_M_flash_53
  · refine zM_of "CoastLampsModel" rfl (by decide) (Nat.le_of_ble_eq_true rfl) ?_
    intro p e s m below meth c ls E hP hK hD hS hl
    obtain ⟨hx, hb, hml, ho, hts, hr, hlk⟩ := id E
    have hl : lv_has ls 3 [(0, .ref aM), (1, .int (nI i)), (2, .int x)] := hl
    refine lv_aload_n hx hb d_M_flash_0 rfl (lv_at hl 0 rfl) ?_
    refine zget (ci := 11) (fs := [.ref m1, .int (nI n), .ref m2, .ref m3, .ref m4, .ref m5, .ref m6, .long sto, .int ni, .int ac, .int bl, .ref m7, .int (nI σ.2.2.1)]) E hK hP 0 rfl zC_M 2 (by decide) kw_592 (Or.inl rfl) rfl d_M_flash_1 ?_
    refine lv_iload_n hx hb d_M_flash_4 rfl (lv_at hl 1 rfl) ?_
    refine va_iald hx hb hK hP 2 1 rfl rfl (vp_in_nI hi (by decide)) d_M_flash_5 ?_
    rw [nI_clamp (i31 hi)]
    rw [hkd]
    refine lv_tableIn (off := 48) (tgt := 54) hx hb d_M_flash_6 (by decide) (by decide) (by decide) (by decide) ?_
    refine lv_aload_n hx hb d_M_flash_54 rfl (lv_at hl 0 rfl) ?_
    refine lv_iload_n hx hb d_M_flash_55 rfl (lv_at hl 2 rfl) ?_
    refine zcV (As := [.int x]) (rest := []) (ci := 11) E cy_M_flashSwing kw_734 ks_25 kw_732 (c_M_flashSwing l dC dI g1 g2 g3 g4 g5 g6 g7 A aM m1 m2 m3 m4 m5 m6 m7 d n kd ht tk so lt sto ni ac bl i hi σ x) hK hP hD hS 0 rfl zC_M.1 rfl rfl hl.1 rfl (Nat.le_of_ble_eq_true rfl) ⟨Nat.le_of_ble_eq_true rfl, Nat.le_of_ble_eq_true rfl⟩ d_M_flash_56 ⟨Nat.le_refl _, Nat.le_refl _⟩ (fun H locs hP hD hS => ?_)
    have hP : va_P (dC, dI) classes (wm g1 g2 g3 g4 g5 g6 g7 aM m1 m2 m3 m4 m5 m6 m7 d n kd ht tk (upd so i ((fSwing x σ).2).1) lt sto ni ac bl ((fSwing x σ).2).2) H := hP
    have hD : va_D A (wm g1 g2 g3 g4 g5 g6 g7 aM m1 m2 m3 m4 m5 m6 m7 d n kd ht tk (upd so i ((fSwing x σ).2).1) lt sto ni ac bl ((fSwing x σ).2).2) := hD
    exact zri E hK hP hD hS d_M_flash_59
  · refine zM_of "CoastLampsModel" rfl (by decide) (Nat.le_of_ble_eq_true rfl) ?_
    intro p e s m below meth c ls E hP hK hD hS hl
    obtain ⟨hx, hb, hml, ho, hts, hr, hlk⟩ := id E
    have hl : lv_has ls 3 [(0, .ref aM), (1, .int (nI i)), (2, .int x)] := hl
    refine lv_aload_n hx hb d_M_flash_0 rfl (lv_at hl 0 rfl) ?_
    refine zget (ci := 11) (fs := [.ref m1, .int (nI n), .ref m2, .ref m3, .ref m4, .ref m5, .ref m6, .long sto, .int ni, .int ac, .int bl, .ref m7, .int (nI σ.2.2.1)]) E hK hP 0 rfl zC_M 2 (by decide) kw_592 (Or.inl rfl) rfl d_M_flash_1 ?_
    refine lv_iload_n hx hb d_M_flash_4 rfl (lv_at hl 1 rfl) ?_
    refine va_iald hx hb hK hP 2 1 rfl rfl (vp_in_nI hi (by decide)) d_M_flash_5 ?_
    rw [nI_clamp (i31 hi)]
    rw [hkd]
    refine lv_tableIn (off := 66) (tgt := 72) hx hb d_M_flash_6 (by decide) (by decide) (by decide) (by decide) ?_
    refine lv_aload_n hx hb d_M_flash_72 rfl (lv_at hl 0 rfl) ?_
    refine zcV (As := []) (rest := []) (ci := 11) E cy_M_flashLamp kw_730 ks_24 kw_728 (c_M_flashLamp l dC dI g1 g2 g3 g4 g5 g6 g7 A aM m1 m2 m3 m4 m5 m6 m7 d n kd ht tk so lt sto ni ac bl i hi σ) hK hP hD hS 0 rfl zC_M.1 rfl rfl hl.1 rfl (Nat.le_of_ble_eq_true rfl) ⟨Nat.le_of_ble_eq_true rfl, Nat.le_of_ble_eq_true rfl⟩ d_M_flash_73 ⟨Nat.le_refl _, Nat.le_refl _⟩ (fun H locs hP hD hS => ?_)
    have hP : va_P (dC, dI) classes (wm g1 g2 g3 g4 g5 g6 g7 aM m1 m2 m3 m4 m5 m6 m7 d n kd ht tk (upd so i ((fLamp σ).2).1) lt sto ni ac bl ((fLamp σ).2).2) H := hP
    have hD : va_D A (wm g1 g2 g3 g4 g5 g6 g7 aM m1 m2 m3 m4 m5 m6 m7 d n kd ht tk (upd so i ((fLamp σ).2).1) lt sto ni ac bl ((fLamp σ).2).2) := hD
    exact zri E hK hP hD hS d_M_flash_76
  · refine zM_of "CoastLampsModel" rfl (by decide) (Nat.le_of_ble_eq_true rfl) ?_
    intro p e s m below meth c ls E hP hK hD hS hl
    obtain ⟨hx, hb, hml, ho, hts, hr, hlk⟩ := id E
    have hl : lv_has ls 3 [(0, .ref aM), (1, .int (nI i)), (2, .int x)] := hl
    refine lv_aload_n hx hb d_M_flash_0 rfl (lv_at hl 0 rfl) ?_
    refine zget (ci := 11) (fs := [.ref m1, .int (nI n), .ref m2, .ref m3, .ref m4, .ref m5, .ref m6, .long sto, .int ni, .int ac, .int bl, .ref m7, .int (nI σ.2.2.1)]) E hK hP 0 rfl zC_M 2 (by decide) kw_592 (Or.inl rfl) rfl d_M_flash_1 ?_
    refine lv_iload_n hx hb d_M_flash_4 rfl (lv_at hl 1 rfl) ?_
    refine va_iald hx hb hK hP 2 1 rfl rfl (vp_in_nI hi (by decide)) d_M_flash_5 ?_
    rw [nI_clamp (i31 hi)]
    rw [hkd]
    refine lv_tableIn (off := 54) (tgt := 60) hx hb d_M_flash_6 (by decide) (by decide) (by decide) (by decide) ?_
    refine lv_aload_n hx hb d_M_flash_60 rfl (lv_at hl 0 rfl) ?_
    refine lv_iload_n hx hb d_M_flash_61 rfl (lv_at hl 2 rfl) ?_
    refine zcV (As := [.int x]) (rest := []) (ci := 11) E cy_M_flashFlare kw_738 ks_26 kw_736 (c_M_flashFlare l dC dI g1 g2 g3 g4 g5 g6 g7 A aM m1 m2 m3 m4 m5 m6 m7 d n kd ht tk so lt sto ni ac bl i hi σ x) hK hP hD hS 0 rfl zC_M.1 rfl rfl hl.1 rfl (Nat.le_of_ble_eq_true rfl) ⟨Nat.le_of_ble_eq_true rfl, Nat.le_of_ble_eq_true rfl⟩ d_M_flash_62 ⟨Nat.le_refl _, Nat.le_refl _⟩ (fun H locs hP hD hS => ?_)
    have hP : va_P (dC, dI) classes (wm g1 g2 g3 g4 g5 g6 g7 aM m1 m2 m3 m4 m5 m6 m7 d n kd ht tk (upd so i ((fFlare x σ).2).1) lt sto ni ac bl ((fFlare x σ).2).2) H := hP
    have hD : va_D A (wm g1 g2 g3 g4 g5 g6 g7 aM m1 m2 m3 m4 m5 m6 m7 d n kd ht tk (upd so i ((fFlare x σ).2).1) lt sto ni ac bl ((fFlare x σ).2).2) := hD
    exact zri E hK hP hD hS d_M_flash_65
  · refine zM_of "CoastLampsModel" rfl (by decide) (Nat.le_of_ble_eq_true rfl) ?_
    intro p e s m below meth c ls E hP hK hD hS hl
    obtain ⟨hx, hb, hml, ho, hts, hr, hlk⟩ := id E
    have hl : lv_has ls 3 [(0, .ref aM), (1, .int (nI i)), (2, .int x)] := hl
    refine lv_aload_n hx hb d_M_flash_0 rfl (lv_at hl 0 rfl) ?_
    refine zget (ci := 11) (fs := [.ref m1, .int (nI n), .ref m2, .ref m3, .ref m4, .ref m5, .ref m6, .long sto, .int ni, .int ac, .int bl, .ref m7, .int (nI σ.2.2.1)]) E hK hP 0 rfl zC_M 2 (by decide) kw_592 (Or.inl rfl) rfl d_M_flash_1 ?_
    refine lv_iload_n hx hb d_M_flash_4 rfl (lv_at hl 1 rfl) ?_
    refine va_iald hx hb hK hP 2 1 rfl rfl (vp_in_nI hi (by decide)) d_M_flash_5 ?_
    rw [nI_clamp (i31 hi)]
    rw [hkd]
    refine lv_tableIn (off := 54) (tgt := 60) hx hb d_M_flash_6 (by decide) (by decide) (by decide) (by decide) ?_
    refine lv_aload_n hx hb d_M_flash_60 rfl (lv_at hl 0 rfl) ?_
    refine lv_iload_n hx hb d_M_flash_61 rfl (lv_at hl 2 rfl) ?_
    refine zcV (As := [.int x]) (rest := []) (ci := 11) E cy_M_flashFlare kw_738 ks_26 kw_736 (c_M_flashFlare l dC dI g1 g2 g3 g4 g5 g6 g7 A aM m1 m2 m3 m4 m5 m6 m7 d n kd ht tk so lt sto ni ac bl i hi σ x) hK hP hD hS 0 rfl zC_M.1 rfl rfl hl.1 rfl (Nat.le_of_ble_eq_true rfl) ⟨Nat.le_of_ble_eq_true rfl, Nat.le_of_ble_eq_true rfl⟩ d_M_flash_62 ⟨Nat.le_refl _, Nat.le_refl _⟩ (fun H locs hP hD hS => ?_)
    have hP : va_P (dC, dI) classes (wm g1 g2 g3 g4 g5 g6 g7 aM m1 m2 m3 m4 m5 m6 m7 d n kd ht tk (upd so i ((fFlare x σ).2).1) lt sto ni ac bl ((fFlare x σ).2).2) H := hP
    have hD : va_D A (wm g1 g2 g3 g4 g5 g6 g7 aM m1 m2 m3 m4 m5 m6 m7 d n kd ht tk (upd so i ((fFlare x σ).2).1) lt sto ni ac bl ((fFlare x σ).2).2) := hD
    exact zri E hK hP hD hS d_M_flash_65
  · refine zM_of "CoastLampsModel" rfl (by decide) (Nat.le_of_ble_eq_true rfl) ?_
    intro p e s m below meth c ls E hP hK hD hS hl
    obtain ⟨hx, hb, hml, ho, hts, hr, hlk⟩ := id E
    have hl : lv_has ls 3 [(0, .ref aM), (1, .int (nI i)), (2, .int x)] := hl
    refine lv_aload_n hx hb d_M_flash_0 rfl (lv_at hl 0 rfl) ?_
    refine zget (ci := 11) (fs := [.ref m1, .int (nI n), .ref m2, .ref m3, .ref m4, .ref m5, .ref m6, .long sto, .int ni, .int ac, .int bl, .ref m7, .int (nI σ.2.2.1)]) E hK hP 0 rfl zC_M 2 (by decide) kw_592 (Or.inl rfl) rfl d_M_flash_1 ?_
    refine lv_iload_n hx hb d_M_flash_4 rfl (lv_at hl 1 rfl) ?_
    refine va_iald hx hb hK hP 2 1 rfl rfl (vp_in_nI hi (by decide)) d_M_flash_5 ?_
    rw [nI_clamp (i31 hi)]
    rw [hkd]
    refine lv_tableIn (off := 60) (tgt := 66) hx hb d_M_flash_6 (by decide) (by decide) (by decide) (by decide) ?_
    refine lv_aload_n hx hb d_M_flash_66 rfl (lv_at hl 0 rfl) ?_
    refine lv_iload_n hx hb d_M_flash_67 rfl (lv_at hl 2 rfl) ?_
    refine zcV (As := [.int x]) (rest := []) (ci := 11) E cy_M_flashOuter kw_742 ks_27 kw_740 (c_M_flashOuter l dC dI g1 g2 g3 g4 g5 g6 g7 A aM m1 m2 m3 m4 m5 m6 m7 d n kd ht tk so lt sto ni ac bl i hi σ x) hK hP hD hS 0 rfl zC_M.1 rfl rfl hl.1 rfl (Nat.le_of_ble_eq_true rfl) ⟨Nat.le_of_ble_eq_true rfl, Nat.le_of_ble_eq_true rfl⟩ d_M_flash_68 ⟨Nat.le_refl _, Nat.le_refl _⟩ (fun H locs hP hD hS => ?_)
    have hP : va_P (dC, dI) classes (wm g1 g2 g3 g4 g5 g6 g7 aM m1 m2 m3 m4 m5 m6 m7 d n kd ht tk (upd so i ((fOuter x σ).2).1) lt sto ni ac bl ((fOuter x σ).2).2) H := hP
    have hD : va_D A (wm g1 g2 g3 g4 g5 g6 g7 aM m1 m2 m3 m4 m5 m6 m7 d n kd ht tk (upd so i ((fOuter x σ).2).1) lt sto ni ac bl ((fOuter x σ).2).2) := hD
    exact zri E hK hP hD hS d_M_flash_71
set_option maxHeartbeats 1000000 in
set_option maxRecDepth 100000 in
theorem c_M_tend (l : Launch) (dC : Nat → ClassId) (dI : Nat → Nat → Nat) (g1 g2 g3 g4 g5 g6 g7 : ClassId) (A : Nat → Prop) (aM m1 m2 m3 m4 m5 m6 m7 : Nat) (d : Nat → Int32) (n : Nat) (kd ht tk so lt : Nat → Int32) (sto : Int64) (ni ac bl : Int32) (i : Nat) (hi : i < 60) (σ : zS) (k : Nat) (hk : k < 9) (hkd : kd i = nI (k + 1)) (x : Int32) : zM l y_M_tend b_M_tend 3 (some (FieldType.int)) 4 89 [.ref aM, .int (nI i), .int x] (dC, dI) (t7 g1 g2 g3 g4 g5 g6 g7) A (wm g1 g2 g3 g4 g5 g6 g7 aM m1 m2 m3 m4 m5 m6 m7 d n kd ht tk (upd so i σ.1) lt sto ni ac bl σ.2) (wm g1 g2 g3 g4 g5 g6 g7 aM m1 m2 m3 m4 m5 m6 m7 d n kd ht tk (upd so i (tendK k d x σ).2.1) lt sto ni ac bl (tendK k d x σ).2.2) (some (.int (tendK k d x σ).1)) := by
  rcases (show k = 0 ∨ k = 1 ∨ k = 2 ∨ k = 3 ∨ k = 4 ∨ k = 5 ∨ k = 6 ∨ k = 7 ∨ k = 8 by omega) with rfl | rfl | rfl | rfl | rfl | rfl | rfl | rfl | rfl
  · refine zM_of "CoastLampsModel" rfl (by decide) (Nat.le_of_ble_eq_true rfl) ?_
    intro p e s m below meth c ls E hP hK hD hS hl
    obtain ⟨hx, hb, hml, ho, hts, hr, hlk⟩ := id E
    have hl : lv_has ls 3 [(0, .ref aM), (1, .int (nI i)), (2, .int x)] := hl
    refine lv_aload_n hx hb d_M_tend_0 rfl (lv_at hl 0 rfl) ?_
    refine zget (ci := 11) (fs := [.ref m1, .int (nI n), .ref m2, .ref m3, .ref m4, .ref m5, .ref m6, .long sto, .int ni, .int ac, .int bl, .ref m7, .int (nI σ.2.2.1)]) E hK hP 0 rfl zC_M 2 (by decide) kw_592 (Or.inl rfl) rfl d_M_tend_1 ?_
    refine lv_iload_n hx hb d_M_tend_4 rfl (lv_at hl 1 rfl) ?_
    refine va_iald hx hb hK hP 2 1 rfl rfl (vp_in_nI hi (by decide)) d_M_tend_5 ?_
    rw [nI_clamp (i31 hi)]
    rw [hkd]
    refine lv_tableOut (tgt := 73) hx hb d_M_tend_6 (by decide) (by decide) ?_
    refine lv_aload_n hx hb d_M_tend_73 rfl (lv_at hl 0 rfl) ?_
    refine lv_iload_n hx hb d_M_tend_74 rfl (lv_at hl 1 rfl) ?_
    refine lv_iload_n hx hb d_M_tend_75 rfl (lv_at hl 2 rfl) ?_
    refine zcV (As := [.int (nI i), .int x]) (rest := []) (ci := 11) E cy_M_tendLamp kw_754 ks_30 kw_752 (c_M_tendLamp l dC dI g1 g2 g3 g4 g5 g6 g7 A aM m1 m2 m3 m4 m5 m6 m7 d n kd ht tk so lt sto ni ac bl i hi σ x) hK hP hD hS 0 rfl zC_M.1 rfl rfl hl.1 rfl (Nat.le_of_ble_eq_true rfl) ⟨Nat.le_of_ble_eq_true rfl, Nat.le_of_ble_eq_true rfl⟩ d_M_tend_76 ⟨Nat.le_refl _, Nat.le_refl _⟩ (fun H locs hP hD hS => ?_)
    have hP : va_P (dC, dI) classes (wm g1 g2 g3 g4 g5 g6 g7 aM m1 m2 m3 m4 m5 m6 m7 d n kd ht tk (upd so i ((tLamp x σ).2).1) lt sto ni ac bl ((tLamp x σ).2).2) H := hP
    have hD : va_D A (wm g1 g2 g3 g4 g5 g6 g7 aM m1 m2 m3 m4 m5 m6 m7 d n kd ht tk (upd so i ((tLamp x σ).2).1) lt sto ni ac bl ((tLamp x σ).2).2) := hD
    exact zri E hK hP hD hS d_M_tend_79
  · refine zM_of "CoastLampsModel" rfl (by decide) (Nat.le_of_ble_eq_true rfl) ?_
    intro p e s m below meth c ls E hP hK hD hS hl
    obtain ⟨hx, hb, hml, ho, hts, hr, hlk⟩ := id E
    have hl : lv_has ls 3 [(0, .ref aM), (1, .int (nI i)), (2, .int x)] := hl
    refine lv_aload_n hx hb d_M_tend_0 rfl (lv_at hl 0 rfl) ?_
    refine zget (ci := 11) (fs := [.ref m1, .int (nI n), .ref m2, .ref m3, .ref m4, .ref m5, .ref m6, .long sto, .int ni, .int ac, .int bl, .ref m7, .int (nI σ.2.2.1)]) E hK hP 0 rfl zC_M 2 (by decide) kw_592 (Or.inl rfl) rfl d_M_tend_1 ?_
    refine lv_iload_n hx hb d_M_tend_4 rfl (lv_at hl 1 rfl) ?_
    refine va_iald hx hb hK hP 2 1 rfl rfl (vp_in_nI hi (by decide)) d_M_tend_5 ?_
    rw [nI_clamp (i31 hi)]
    rw [hkd]
    refine lv_tableIn (off := 46) (tgt := 52) hx hb d_M_tend_6 (by decide) (by decide) (by decide) (by decide) ?_
    refine lv_aload_n hx hb d_M_tend_52 rfl (lv_at hl 0 rfl) ?_
    refine lv_iload_n hx hb d_M_tend_53 rfl (lv_at hl 1 rfl) ?_
    refine lv_iload_n hx hb d_M_tend_54 rfl (lv_at hl 2 rfl) ?_
    refine zcV (As := [.int (nI i), .int x]) (rest := []) (ci := 11) E cy_M_tendRound kw_750 ks_29 kw_748 (c_M_tendRound l dC dI g1 g2 g3 g4 g5 g6 g7 A aM m1 m2 m3 m4 m5 m6 m7 d n kd ht tk so lt sto ni ac bl i hi σ x) hK hP hD hS 0 rfl zC_M.1 rfl rfl hl.1 rfl (Nat.le_of_ble_eq_true rfl) ⟨Nat.le_of_ble_eq_true rfl, Nat.le_of_ble_eq_true rfl⟩ d_M_tend_55 ⟨Nat.le_refl _, Nat.le_refl _⟩ (fun H locs hP hD hS => ?_)
    have hP : va_P (dC, dI) classes (wm g1 g2 g3 g4 g5 g6 g7 aM m1 m2 m3 m4 m5 m6 m7 d n kd ht tk (upd so i ((tRound x σ).2).1) lt sto ni ac bl ((tRound x σ).2).2) H := hP
    have hD : va_D A (wm g1 g2 g3 g4 g5 g6 g7 aM m1 m2 m3 m4 m5 m6 m7 d n kd ht tk (upd so i ((tRound x σ).2).1) lt sto ni ac bl ((tRound x σ).2).2) := hD
    exact zri E hK hP hD hS d_M_tend_58
  · refine zM_of "CoastLampsModel" rfl (by decide) (Nat.le_of_ble_eq_true rfl) ?_
    intro p e s m below meth c ls E hP hK hD hS hl
    obtain ⟨hx, hb, hml, ho, hts, hr, hlk⟩ := id E
    have hl : lv_has ls 3 [(0, .ref aM), (1, .int (nI i)), (2, .int x)] := hl
    refine lv_aload_n hx hb d_M_tend_0 rfl (lv_at hl 0 rfl) ?_
    refine zget (ci := 11) (fs := [.ref m1, .int (nI n), .ref m2, .ref m3, .ref m4, .ref m5, .ref m6, .long sto, .int ni, .int ac, .int bl, .ref m7, .int (nI σ.2.2.1)]) E hK hP 0 rfl zC_M 2 (by decide) kw_592 (Or.inl rfl) rfl d_M_tend_1 ?_
    refine lv_iload_n hx hb d_M_tend_4 rfl (lv_at hl 1 rfl) ?_
    refine va_iald hx hb hK hP 2 1 rfl rfl (vp_in_nI hi (by decide)) d_M_tend_5 ?_
    rw [nI_clamp (i31 hi)]
    rw [hkd]
    refine lv_tableIn (off := 46) (tgt := 52) hx hb d_M_tend_6 (by decide) (by decide) (by decide) (by decide) ?_
    refine lv_aload_n hx hb d_M_tend_52 rfl (lv_at hl 0 rfl) ?_
    refine lv_iload_n hx hb d_M_tend_53 rfl (lv_at hl 1 rfl) ?_
    refine lv_iload_n hx hb d_M_tend_54 rfl (lv_at hl 2 rfl) ?_
    refine zcV (As := [.int (nI i), .int x]) (rest := []) (ci := 11) E cy_M_tendRound kw_750 ks_29 kw_748 (c_M_tendRound l dC dI g1 g2 g3 g4 g5 g6 g7 A aM m1 m2 m3 m4 m5 m6 m7 d n kd ht tk so lt sto ni ac bl i hi σ x) hK hP hD hS 0 rfl zC_M.1 rfl rfl hl.1 rfl (Nat.le_of_ble_eq_true rfl) ⟨Nat.le_of_ble_eq_true rfl, Nat.le_of_ble_eq_true rfl⟩ d_M_tend_55 ⟨Nat.le_refl _, Nat.le_refl _⟩ (fun H locs hP hD hS => ?_)
    have hP : va_P (dC, dI) classes (wm g1 g2 g3 g4 g5 g6 g7 aM m1 m2 m3 m4 m5 m6 m7 d n kd ht tk (upd so i ((tRound x σ).2).1) lt sto ni ac bl ((tRound x σ).2).2) H := hP
    have hD : va_D A (wm g1 g2 g3 g4 g5 g6 g7 aM m1 m2 m3 m4 m5 m6 m7 d n kd ht tk (upd so i ((tRound x σ).2).1) lt sto ni ac bl ((tRound x σ).2).2) := hD
    exact zri E hK hP hD hS d_M_tend_58
  · refine zM_of "CoastLampsModel" rfl (by decide) (Nat.le_of_ble_eq_true rfl) ?_
    intro p e s m below meth c ls E hP hK hD hS hl
    obtain ⟨hx, hb, hml, ho, hts, hr, hlk⟩ := id E
    have hl : lv_has ls 3 [(0, .ref aM), (1, .int (nI i)), (2, .int x)] := hl
    refine lv_aload_n hx hb d_M_tend_0 rfl (lv_at hl 0 rfl) ?_
    refine zget (ci := 11) (fs := [.ref m1, .int (nI n), .ref m2, .ref m3, .ref m4, .ref m5, .ref m6, .long sto, .int ni, .int ac, .int bl, .ref m7, .int (nI σ.2.2.1)]) E hK hP 0 rfl zC_M 2 (by decide) kw_592 (Or.inl rfl) rfl d_M_tend_1 ?_
    refine lv_iload_n hx hb d_M_tend_4 rfl (lv_at hl 1 rfl) ?_
    refine va_iald hx hb hK hP 2 1 rfl rfl (vp_in_nI hi (by decide)) d_M_tend_5 ?_
    rw [nI_clamp (i31 hi)]
    rw [hkd]
    refine lv_tableIn (off := 53) (tgt := 59) hx hb d_M_tend_6 (by decide) (by decide) (by decide) (by decide) ?_
    refine lv_aload_n hx hb d_M_tend_59 rfl (lv_at hl 0 rfl) ?_
    refine lv_iload_n hx hb d_M_tend_60 rfl (lv_at hl 1 rfl) ?_
    refine lv_iload_n hx hb d_M_tend_61 rfl (lv_at hl 2 rfl) ?_
    refine zcV (As := [.int (nI i), .int x]) (rest := []) (ci := 11) E cy_M_tendDrum kw_758 ks_31 kw_756 (c_M_tendDrum l dC dI g1 g2 g3 g4 g5 g6 g7 A aM m1 m2 m3 m4 m5 m6 m7 d n kd ht tk so lt sto ni ac bl i hi σ x) hK hP hD hS 0 rfl zC_M.1 rfl rfl hl.1 rfl (Nat.le_of_ble_eq_true rfl) ⟨Nat.le_of_ble_eq_true rfl, Nat.le_of_ble_eq_true rfl⟩ d_M_tend_62 ⟨Nat.le_refl _, Nat.le_refl _⟩ (fun H locs hP hD hS => ?_)
    have hP : va_P (dC, dI) classes (wm g1 g2 g3 g4 g5 g6 g7 aM m1 m2 m3 m4 m5 m6 m7 d n kd ht tk (upd so i ((tDrum d x σ).2).1) lt sto ni ac bl ((tDrum d x σ).2).2) H := hP
    have hD : va_D A (wm g1 g2 g3 g4 g5 g6 g7 aM m1 m2 m3 m4 m5 m6 m7 d n kd ht tk (upd so i ((tDrum d x σ).2).1) lt sto ni ac bl ((tDrum d x σ).2).2) := hD
    exact zri E hK hP hD hS d_M_tend_65
  · refine zM_of "CoastLampsModel" rfl (by decide) (Nat.le_of_ble_eq_true rfl) ?_
    intro p e s m below meth c ls E hP hK hD hS hl
    obtain ⟨hx, hb, hml, ho, hts, hr, hlk⟩ := id E
    have hl : lv_has ls 3 [(0, .ref aM), (1, .int (nI i)), (2, .int x)] := hl
    refine lv_aload_n hx hb d_M_tend_0 rfl (lv_at hl 0 rfl) ?_
    refine zget (ci := 11) (fs := [.ref m1, .int (nI n), .ref m2, .ref m3, .ref m4, .ref m5, .ref m6, .long sto, .int ni, .int ac, .int bl, .ref m7, .int (nI σ.2.2.1)]) E hK hP 0 rfl zC_M 2 (by decide) kw_592 (Or.inl rfl) rfl d_M_tend_1 ?_
    refine lv_iload_n hx hb d_M_tend_4 rfl (lv_at hl 1 rfl) ?_
    refine va_iald hx hb hK hP 2 1 rfl rfl (vp_in_nI hi (by decide)) d_M_tend_5 ?_
    rw [nI_clamp (i31 hi)]
    rw [hkd]
    refine lv_tableIn (off := 53) (tgt := 59) hx hb d_M_tend_6 (by decide) (by decide) (by decide) (by decide) ?_
    refine lv_aload_n hx hb d_M_tend_59 rfl (lv_at hl 0 rfl) ?_
    refine lv_iload_n hx hb d_M_tend_60 rfl (lv_at hl 1 rfl) ?_
    refine lv_iload_n hx hb d_M_tend_61 rfl (lv_at hl 2 rfl) ?_
    refine zcV (As := [.int (nI i), .int x]) (rest := []) (ci := 11) E cy_M_tendDrum kw_758 ks_31 kw_756 (c_M_tendDrum l dC dI g1 g2 g3 g4 g5 g6 g7 A aM m1 m2 m3 m4 m5 m6 m7 d n kd ht tk so lt sto ni ac bl i hi σ x) hK hP hD hS 0 rfl zC_M.1 rfl rfl hl.1 rfl (Nat.le_of_ble_eq_true rfl) ⟨Nat.le_of_ble_eq_true rfl, Nat.le_of_ble_eq_true rfl⟩ d_M_tend_62 ⟨Nat.le_refl _, Nat.le_refl _⟩ (fun H locs hP hD hS => ?_)
    have hP : va_P (dC, dI) classes (wm g1 g2 g3 g4 g5 g6 g7 aM m1 m2 m3 m4 m5 m6 m7 d n kd ht tk (upd so i ((tDrum d x σ).2).1) lt sto ni ac bl ((tDrum d x σ).2).2) H := hP
    have hD : va_D A (wm g1 g2 g3 g4 g5 g6 g7 aM m1 m2 m3 m4 m5 m6 m7 d n kd ht tk (upd so i ((tDrum d x σ).2).1) lt sto ni ac bl ((tDrum d x σ).2).2) := hD
    exact zri E hK hP hD hS d_M_tend_65
  · refine zM_of "CoastLampsModel" rfl (by decide) (Nat.le_of_ble_eq_true rfl) ?_
    intro p e s m below meth c ls E hP hK hD hS hl
    obtain ⟨hx, hb, hml, ho, hts, hr, hlk⟩ := id E
    have hl : lv_has ls 3 [(0, .ref aM), (1, .int (nI i)), (2, .int x)] := hl
    refine lv_aload_n hx hb d_M_tend_0 rfl (lv_at hl 0 rfl) ?_
    refine zget (ci := 11) (fs := [.ref m1, .int (nI n), .ref m2, .ref m3, .ref m4, .ref m5, .ref m6, .long sto, .int ni, .int ac, .int bl, .ref m7, .int (nI σ.2.2.1)]) E hK hP 0 rfl zC_M 2 (by decide) kw_592 (Or.inl rfl) rfl d_M_tend_1 ?_
    refine lv_iload_n hx hb d_M_tend_4 rfl (lv_at hl 1 rfl) ?_
    refine va_iald hx hb hK hP 2 1 rfl rfl (vp_in_nI hi (by decide)) d_M_tend_5 ?_
    rw [nI_clamp (i31 hi)]
    rw [hkd]
    refine lv_tableIn (off := 67) (tgt := 73) hx hb d_M_tend_6 (by decide) (by decide) (by decide) (by decide) ?_
    refine lv_aload_n hx hb d_M_tend_73 rfl (lv_at hl 0 rfl) ?_
    refine lv_iload_n hx hb d_M_tend_74 rfl (lv_at hl 1 rfl) ?_
    refine lv_iload_n hx hb d_M_tend_75 rfl (lv_at hl 2 rfl) ?_
    refine zcV (As := [.int (nI i), .int x]) (rest := []) (ci := 11) E cy_M_tendLamp kw_754 ks_30 kw_752 (c_M_tendLamp l dC dI g1 g2 g3 g4 g5 g6 g7 A aM m1 m2 m3 m4 m5 m6 m7 d n kd ht tk so lt sto ni ac bl i hi σ x) hK hP hD hS 0 rfl zC_M.1 rfl rfl hl.1 rfl (Nat.le_of_ble_eq_true rfl) ⟨Nat.le_of_ble_eq_true rfl, Nat.le_of_ble_eq_true rfl⟩ d_M_tend_76 ⟨Nat.le_refl _, Nat.le_refl _⟩ (fun H locs hP hD hS => ?_)
    have hP : va_P (dC, dI) classes (wm g1 g2 g3 g4 g5 g6 g7 aM m1 m2 m3 m4 m5 m6 m7 d n kd ht tk (upd so i ((tLamp x σ).2).1) lt sto ni ac bl ((tLamp x σ).2).2) H := hP
    have hD : va_D A (wm g1 g2 g3 g4 g5 g6 g7 aM m1 m2 m3 m4 m5 m6 m7 d n kd ht tk (upd so i ((tLamp x σ).2).1) lt sto ni ac bl ((tLamp x σ).2).2) := hD
    exact zri E hK hP hD hS d_M_tend_79
  · refine zM_of "CoastLampsModel" rfl (by decide) (Nat.le_of_ble_eq_true rfl) ?_
    intro p e s m below meth c ls E hP hK hD hS hl
    obtain ⟨hx, hb, hml, ho, hts, hr, hlk⟩ := id E
    have hl : lv_has ls 3 [(0, .ref aM), (1, .int (nI i)), (2, .int x)] := hl
    refine lv_aload_n hx hb d_M_tend_0 rfl (lv_at hl 0 rfl) ?_
    refine zget (ci := 11) (fs := [.ref m1, .int (nI n), .ref m2, .ref m3, .ref m4, .ref m5, .ref m6, .long sto, .int ni, .int ac, .int bl, .ref m7, .int (nI σ.2.2.1)]) E hK hP 0 rfl zC_M 2 (by decide) kw_592 (Or.inl rfl) rfl d_M_tend_1 ?_
    refine lv_iload_n hx hb d_M_tend_4 rfl (lv_at hl 1 rfl) ?_
    refine va_iald hx hb hK hP 2 1 rfl rfl (vp_in_nI hi (by decide)) d_M_tend_5 ?_
    rw [nI_clamp (i31 hi)]
    rw [hkd]
    refine lv_tableIn (off := 67) (tgt := 73) hx hb d_M_tend_6 (by decide) (by decide) (by decide) (by decide) ?_
    refine lv_aload_n hx hb d_M_tend_73 rfl (lv_at hl 0 rfl) ?_
    refine lv_iload_n hx hb d_M_tend_74 rfl (lv_at hl 1 rfl) ?_
    refine lv_iload_n hx hb d_M_tend_75 rfl (lv_at hl 2 rfl) ?_
    refine zcV (As := [.int (nI i), .int x]) (rest := []) (ci := 11) E cy_M_tendLamp kw_754 ks_30 kw_752 (c_M_tendLamp l dC dI g1 g2 g3 g4 g5 g6 g7 A aM m1 m2 m3 m4 m5 m6 m7 d n kd ht tk so lt sto ni ac bl i hi σ x) hK hP hD hS 0 rfl zC_M.1 rfl rfl hl.1 rfl (Nat.le_of_ble_eq_true rfl) ⟨Nat.le_of_ble_eq_true rfl, Nat.le_of_ble_eq_true rfl⟩ d_M_tend_76 ⟨Nat.le_refl _, Nat.le_refl _⟩ (fun H locs hP hD hS => ?_)
    have hP : va_P (dC, dI) classes (wm g1 g2 g3 g4 g5 g6 g7 aM m1 m2 m3 m4 m5 m6 m7 d n kd ht tk (upd so i ((tLamp x σ).2).1) lt sto ni ac bl ((tLamp x σ).2).2) H := hP
    have hD : va_D A (wm g1 g2 g3 g4 g5 g6 g7 aM m1 m2 m3 m4 m5 m6 m7 d n kd ht tk (upd so i ((tLamp x σ).2).1) lt sto ni ac bl ((tLamp x σ).2).2) := hD
    exact zri E hK hP hD hS d_M_tend_79
  · refine zM_of "CoastLampsModel" rfl (by decide) (Nat.le_of_ble_eq_true rfl) ?_
    intro p e s m below meth c ls E hP hK hD hS hl
    obtain ⟨hx, hb, hml, ho, hts, hr, hlk⟩ := id E
    have hl : lv_has ls 3 [(0, .ref aM), (1, .int (nI i)), (2, .int x)] := hl
    refine lv_aload_n hx hb d_M_tend_0 rfl (lv_at hl 0 rfl) ?_
    refine zget (ci := 11) (fs := [.ref m1, .int (nI n), .ref m2, .ref m3, .ref m4, .ref m5, .ref m6, .long sto, .int ni, .int ac, .int bl, .ref m7, .int (nI σ.2.2.1)]) E hK hP 0 rfl zC_M 2 (by decide) kw_592 (Or.inl rfl) rfl d_M_tend_1 ?_
    refine lv_iload_n hx hb d_M_tend_4 rfl (lv_at hl 1 rfl) ?_
    refine va_iald hx hb hK hP 2 1 rfl rfl (vp_in_nI hi (by decide)) d_M_tend_5 ?_
    rw [nI_clamp (i31 hi)]
    rw [hkd]
    refine lv_tableIn (off := 60) (tgt := 66) hx hb d_M_tend_6 (by decide) (by decide) (by decide) (by decide) ?_
    refine lv_aload_n hx hb d_M_tend_66 rfl (lv_at hl 0 rfl) ?_
    refine lv_iload_n hx hb d_M_tend_67 rfl (lv_at hl 1 rfl) ?_
    refine lv_iload_n hx hb d_M_tend_68 rfl (lv_at hl 2 rfl) ?_
    refine zcV (As := [.int (nI i), .int x]) (rest := []) (ci := 11) E cy_M_tendBuoy kw_762 ks_32 kw_760 (c_M_tendBuoy l dC dI g1 g2 g3 g4 g5 g6 g7 A aM m1 m2 m3 m4 m5 m6 m7 d n kd ht tk so lt sto ni ac bl i hi σ x) hK hP hD hS 0 rfl zC_M.1 rfl rfl hl.1 rfl (Nat.le_of_ble_eq_true rfl) ⟨Nat.le_of_ble_eq_true rfl, Nat.le_of_ble_eq_true rfl⟩ d_M_tend_69 ⟨Nat.le_refl _, Nat.le_refl _⟩ (fun H locs hP hD hS => ?_)
    have hP : va_P (dC, dI) classes (wm g1 g2 g3 g4 g5 g6 g7 aM m1 m2 m3 m4 m5 m6 m7 d n kd ht tk (upd so i ((tBuoy d x σ).2).1) lt sto ni ac bl ((tBuoy d x σ).2).2) H := hP
    have hD : va_D A (wm g1 g2 g3 g4 g5 g6 g7 aM m1 m2 m3 m4 m5 m6 m7 d n kd ht tk (upd so i ((tBuoy d x σ).2).1) lt sto ni ac bl ((tBuoy d x σ).2).2) := hD
    exact zri E hK hP hD hS d_M_tend_72
  · refine zM_of "CoastLampsModel" rfl (by decide) (Nat.le_of_ble_eq_true rfl) ?_
    intro p e s m below meth c ls E hP hK hD hS hl
    obtain ⟨hx, hb, hml, ho, hts, hr, hlk⟩ := id E
    have hl : lv_has ls 3 [(0, .ref aM), (1, .int (nI i)), (2, .int x)] := hl
    refine lv_aload_n hx hb d_M_tend_0 rfl (lv_at hl 0 rfl) ?_
    refine zget (ci := 11) (fs := [.ref m1, .int (nI n), .ref m2, .ref m3, .ref m4, .ref m5, .ref m6, .long sto, .int ni, .int ac, .int bl, .ref m7, .int (nI σ.2.2.1)]) E hK hP 0 rfl zC_M 2 (by decide) kw_592 (Or.inl rfl) rfl d_M_tend_1 ?_
    refine lv_iload_n hx hb d_M_tend_4 rfl (lv_at hl 1 rfl) ?_
    refine va_iald hx hb hK hP 2 1 rfl rfl (vp_in_nI hi (by decide)) d_M_tend_5 ?_
    rw [nI_clamp (i31 hi)]
    rw [hkd]
    refine lv_tableIn (off := 60) (tgt := 66) hx hb d_M_tend_6 (by decide) (by decide) (by decide) (by decide) ?_
    refine lv_aload_n hx hb d_M_tend_66 rfl (lv_at hl 0 rfl) ?_
    refine lv_iload_n hx hb d_M_tend_67 rfl (lv_at hl 1 rfl) ?_
    refine lv_iload_n hx hb d_M_tend_68 rfl (lv_at hl 2 rfl) ?_
    refine zcV (As := [.int (nI i), .int x]) (rest := []) (ci := 11) E cy_M_tendBuoy kw_762 ks_32 kw_760 (c_M_tendBuoy l dC dI g1 g2 g3 g4 g5 g6 g7 A aM m1 m2 m3 m4 m5 m6 m7 d n kd ht tk so lt sto ni ac bl i hi σ x) hK hP hD hS 0 rfl zC_M.1 rfl rfl hl.1 rfl (Nat.le_of_ble_eq_true rfl) ⟨Nat.le_of_ble_eq_true rfl, Nat.le_of_ble_eq_true rfl⟩ d_M_tend_69 ⟨Nat.le_refl _, Nat.le_refl _⟩ (fun H locs hP hD hS => ?_)
    have hP : va_P (dC, dI) classes (wm g1 g2 g3 g4 g5 g6 g7 aM m1 m2 m3 m4 m5 m6 m7 d n kd ht tk (upd so i ((tBuoy d x σ).2).1) lt sto ni ac bl ((tBuoy d x σ).2).2) H := hP
    have hD : va_D A (wm g1 g2 g3 g4 g5 g6 g7 aM m1 m2 m3 m4 m5 m6 m7 d n kd ht tk (upd so i ((tBuoy d x σ).2).1) lt sto ni ac bl ((tBuoy d x σ).2).2) := hD
    exact zri E hK hP hD hS d_M_tend_72
set_option maxHeartbeats 1000000 in
set_option maxRecDepth 100000 in
theorem c_M_rank (l : Launch) (dC : Nat → ClassId) (dI : Nat → Nat → Nat) (g1 g2 g3 g4 g5 g6 g7 : ClassId) (A : Nat → Prop) (aM m1 m2 m3 m4 m5 m6 m7 : Nat) (d : Nat → Int32) (n : Nat) (kd ht tk so lt : Nat → Int32) (sto : Int64) (ni ac bl : Int32) (i : Nat) (hi : i < 60) (σ : zS) (k : Nat) (hk : k < 9) (hkd : kd i = nI (k + 1)) : zM l y_M_rank b_M_rank 2 (some (FieldType.int)) 4 84 [.ref aM, .int (nI i)] (dC, dI) (t7 g1 g2 g3 g4 g5 g6 g7) A (wm g1 g2 g3 g4 g5 g6 g7 aM m1 m2 m3 m4 m5 m6 m7 d n kd ht tk (upd so i σ.1) lt sto ni ac bl σ.2) (wm g1 g2 g3 g4 g5 g6 g7 aM m1 m2 m3 m4 m5 m6 m7 d n kd ht tk (upd so i (rankK k (ht i) (tk i) σ).2.1) lt sto ni ac bl (rankK k (ht i) (tk i) σ).2.2) (some (.int (rankK k (ht i) (tk i) σ).1)) := by
  rcases (show k = 0 ∨ k = 1 ∨ k = 2 ∨ k = 3 ∨ k = 4 ∨ k = 5 ∨ k = 6 ∨ k = 7 ∨ k = 8 by omega) with rfl | rfl | rfl | rfl | rfl | rfl | rfl | rfl | rfl
  · refine zM_of "CoastLampsModel" rfl (by decide) (Nat.le_of_ble_eq_true rfl) ?_
    intro p e s m below meth c ls E hP hK hD hS hl
    obtain ⟨hx, hb, hml, ho, hts, hr, hlk⟩ := id E
    have hl : lv_has ls 2 [(0, .ref aM), (1, .int (nI i))] := hl
    refine lv_aload_n hx hb d_M_rank_0 rfl (lv_at hl 0 rfl) ?_
    refine zget (ci := 11) (fs := [.ref m1, .int (nI n), .ref m2, .ref m3, .ref m4, .ref m5, .ref m6, .long sto, .int ni, .int ac, .int bl, .ref m7, .int (nI σ.2.2.1)]) E hK hP 0 rfl zC_M 2 (by decide) kw_592 (Or.inl rfl) rfl d_M_rank_1 ?_
    refine lv_iload_n hx hb d_M_rank_4 rfl (lv_at hl 1 rfl) ?_
    refine va_iald hx hb hK hP 2 1 rfl rfl (vp_in_nI hi (by decide)) d_M_rank_5 ?_
    rw [nI_clamp (i31 hi)]
    rw [hkd]
    refine lv_tableIn (off := 50) (tgt := 56) hx hb d_M_rank_6 (by decide) (by decide) (by decide) (by decide) ?_
    refine lv_aload_n hx hb d_M_rank_56 rfl (lv_at hl 0 rfl) ?_
    refine lv_iload_n hx hb d_M_rank_57 rfl (lv_at hl 1 rfl) ?_
    refine zcV (As := [.int (nI i)]) (rest := []) (ci := 11) E cy_M_rankOil kw_770 ks_34 kw_768 (c_M_rankOil l dC dI g1 g2 g3 g4 g5 g6 g7 A aM m1 m2 m3 m4 m5 m6 m7 d n kd ht tk so lt sto ni ac bl i hi σ) hK hP hD hS 0 rfl zC_M.1 rfl rfl hl.1 rfl (Nat.le_of_ble_eq_true rfl) ⟨Nat.le_of_ble_eq_true rfl, Nat.le_of_ble_eq_true rfl⟩ d_M_rank_58 ⟨Nat.le_refl _, Nat.le_refl _⟩ (fun H locs hP hD hS => ?_)
    have hP : va_P (dC, dI) classes (wm g1 g2 g3 g4 g5 g6 g7 aM m1 m2 m3 m4 m5 m6 m7 d n kd ht tk (upd so i ((kOil (ht i) σ).2).1) lt sto ni ac bl ((kOil (ht i) σ).2).2) H := hP
    have hD : va_D A (wm g1 g2 g3 g4 g5 g6 g7 aM m1 m2 m3 m4 m5 m6 m7 d n kd ht tk (upd so i ((kOil (ht i) σ).2).1) lt sto ni ac bl ((kOil (ht i) σ).2).2) := hD
    exact zri E hK hP hD hS d_M_rank_61
  · refine zM_of "CoastLampsModel" rfl (by decide) (Nat.le_of_ble_eq_true rfl) ?_
    intro p e s m below meth c ls E hP hK hD hS hl
    obtain ⟨hx, hb, hml, ho, hts, hr, hlk⟩ := id E
    have hl : lv_has ls 2 [(0, .ref aM), (1, .int (nI i))] := hl
    refine lv_aload_n hx hb d_M_rank_0 rfl (lv_at hl 0 rfl) ?_
    refine zget (ci := 11) (fs := [.ref m1, .int (nI n), .ref m2, .ref m3, .ref m4, .ref m5, .ref m6, .long sto, .int ni, .int ac, .int bl, .ref m7, .int (nI σ.2.2.1)]) E hK hP 0 rfl zC_M 2 (by decide) kw_592 (Or.inl rfl) rfl d_M_rank_1 ?_
    refine lv_iload_n hx hb d_M_rank_4 rfl (lv_at hl 1 rfl) ?_
    refine va_iald hx hb hK hP 2 1 rfl rfl (vp_in_nI hi (by decide)) d_M_rank_5 ?_
    rw [nI_clamp (i31 hi)]
    rw [hkd]
    refine lv_tableIn (off := 50) (tgt := 56) hx hb d_M_rank_6 (by decide) (by decide) (by decide) (by decide) ?_
    refine lv_aload_n hx hb d_M_rank_56 rfl (lv_at hl 0 rfl) ?_
    refine lv_iload_n hx hb d_M_rank_57 rfl (lv_at hl 1 rfl) ?_
    refine zcV (As := [.int (nI i)]) (rest := []) (ci := 11) E cy_M_rankOil kw_770 ks_34 kw_768 (c_M_rankOil l dC dI g1 g2 g3 g4 g5 g6 g7 A aM m1 m2 m3 m4 m5 m6 m7 d n kd ht tk so lt sto ni ac bl i hi σ) hK hP hD hS 0 rfl zC_M.1 rfl rfl hl.1 rfl (Nat.le_of_ble_eq_true rfl) ⟨Nat.le_of_ble_eq_true rfl, Nat.le_of_ble_eq_true rfl⟩ d_M_rank_58 ⟨Nat.le_refl _, Nat.le_refl _⟩ (fun H locs hP hD hS => ?_)
    have hP : va_P (dC, dI) classes (wm g1 g2 g3 g4 g5 g6 g7 aM m1 m2 m3 m4 m5 m6 m7 d n kd ht tk (upd so i ((kOil (ht i) σ).2).1) lt sto ni ac bl ((kOil (ht i) σ).2).2) H := hP
    have hD : va_D A (wm g1 g2 g3 g4 g5 g6 g7 aM m1 m2 m3 m4 m5 m6 m7 d n kd ht tk (upd so i ((kOil (ht i) σ).2).1) lt sto ni ac bl ((kOil (ht i) σ).2).2) := hD
    exact zri E hK hP hD hS d_M_rank_61
  · refine zM_of "CoastLampsModel" rfl (by decide) (Nat.le_of_ble_eq_true rfl) ?_
    intro p e s m below meth c ls E hP hK hD hS hl
    obtain ⟨hx, hb, hml, ho, hts, hr, hlk⟩ := id E
    have hl : lv_has ls 2 [(0, .ref aM), (1, .int (nI i))] := hl
    refine lv_aload_n hx hb d_M_rank_0 rfl (lv_at hl 0 rfl) ?_
    refine zget (ci := 11) (fs := [.ref m1, .int (nI n), .ref m2, .ref m3, .ref m4, .ref m5, .ref m6, .long sto, .int ni, .int ac, .int bl, .ref m7, .int (nI σ.2.2.1)]) E hK hP 0 rfl zC_M 2 (by decide) kw_592 (Or.inl rfl) rfl d_M_rank_1 ?_
    refine lv_iload_n hx hb d_M_rank_4 rfl (lv_at hl 1 rfl) ?_
    refine va_iald hx hb hK hP 2 1 rfl rfl (vp_in_nI hi (by decide)) d_M_rank_5 ?_
    rw [nI_clamp (i31 hi)]
    rw [hkd]
    refine lv_tableIn (off := 50) (tgt := 56) hx hb d_M_rank_6 (by decide) (by decide) (by decide) (by decide) ?_
    refine lv_aload_n hx hb d_M_rank_56 rfl (lv_at hl 0 rfl) ?_
    refine lv_iload_n hx hb d_M_rank_57 rfl (lv_at hl 1 rfl) ?_
    refine zcV (As := [.int (nI i)]) (rest := []) (ci := 11) E cy_M_rankOil kw_770 ks_34 kw_768 (c_M_rankOil l dC dI g1 g2 g3 g4 g5 g6 g7 A aM m1 m2 m3 m4 m5 m6 m7 d n kd ht tk so lt sto ni ac bl i hi σ) hK hP hD hS 0 rfl zC_M.1 rfl rfl hl.1 rfl (Nat.le_of_ble_eq_true rfl) ⟨Nat.le_of_ble_eq_true rfl, Nat.le_of_ble_eq_true rfl⟩ d_M_rank_58 ⟨Nat.le_refl _, Nat.le_refl _⟩ (fun H locs hP hD hS => ?_)
    have hP : va_P (dC, dI) classes (wm g1 g2 g3 g4 g5 g6 g7 aM m1 m2 m3 m4 m5 m6 m7 d n kd ht tk (upd so i ((kOil (ht i) σ).2).1) lt sto ni ac bl ((kOil (ht i) σ).2).2) H := hP
    have hD : va_D A (wm g1 g2 g3 g4 g5 g6 g7 aM m1 m2 m3 m4 m5 m6 m7 d n kd ht tk (upd so i ((kOil (ht i) σ).2).1) lt sto ni ac bl ((kOil (ht i) σ).2).2) := hD
    exact zri E hK hP hD hS d_M_rank_61
  · refine zM_of "CoastLampsModel" rfl (by decide) (Nat.le_of_ble_eq_true rfl) ?_
    intro p e s m below meth c ls E hP hK hD hS hl
    obtain ⟨hx, hb, hml, ho, hts, hr, hlk⟩ := id E
    have hl : lv_has ls 2 [(0, .ref aM), (1, .int (nI i))] := hl
    refine lv_aload_n hx hb d_M_rank_0 rfl (lv_at hl 0 rfl) ?_
    refine zget (ci := 11) (fs := [.ref m1, .int (nI n), .ref m2, .ref m3, .ref m4, .ref m5, .ref m6, .long sto, .int ni, .int ac, .int bl, .ref m7, .int (nI σ.2.2.1)]) E hK hP 0 rfl zC_M 2 (by decide) kw_592 (Or.inl rfl) rfl d_M_rank_1 ?_
    refine lv_iload_n hx hb d_M_rank_4 rfl (lv_at hl 1 rfl) ?_
    refine va_iald hx hb hK hP 2 1 rfl rfl (vp_in_nI hi (by decide)) d_M_rank_5 ?_
    rw [nI_clamp (i31 hi)]
    rw [hkd]
    refine lv_tableIn (off := 56) (tgt := 62) hx hb d_M_rank_6 (by decide) (by decide) (by decide) (by decide) ?_
    refine lv_aload_n hx hb d_M_rank_62 rfl (lv_at hl 0 rfl) ?_
    refine lv_iload_n hx hb d_M_rank_63 rfl (lv_at hl 1 rfl) ?_
    refine zcV (As := [.int (nI i)]) (rest := []) (ci := 11) E cy_M_rankDrum kw_778 ks_36 kw_776 (c_M_rankDrum l dC dI g1 g2 g3 g4 g5 g6 g7 A aM m1 m2 m3 m4 m5 m6 m7 d n kd ht tk so lt sto ni ac bl i hi σ) hK hP hD hS 0 rfl zC_M.1 rfl rfl hl.1 rfl (Nat.le_of_ble_eq_true rfl) ⟨Nat.le_of_ble_eq_true rfl, Nat.le_of_ble_eq_true rfl⟩ d_M_rank_64 ⟨Nat.le_refl _, Nat.le_refl _⟩ (fun H locs hP hD hS => ?_)
    have hP : va_P (dC, dI) classes (wm g1 g2 g3 g4 g5 g6 g7 aM m1 m2 m3 m4 m5 m6 m7 d n kd ht tk (upd so i ((kDrum (ht i) σ).2).1) lt sto ni ac bl ((kDrum (ht i) σ).2).2) H := hP
    have hD : va_D A (wm g1 g2 g3 g4 g5 g6 g7 aM m1 m2 m3 m4 m5 m6 m7 d n kd ht tk (upd so i ((kDrum (ht i) σ).2).1) lt sto ni ac bl ((kDrum (ht i) σ).2).2) := hD
    exact zri E hK hP hD hS d_M_rank_67
  · refine zM_of "CoastLampsModel" rfl (by decide) (Nat.le_of_ble_eq_true rfl) ?_
    intro p e s m below meth c ls E hP hK hD hS hl
    obtain ⟨hx, hb, hml, ho, hts, hr, hlk⟩ := id E
    have hl : lv_has ls 2 [(0, .ref aM), (1, .int (nI i))] := hl
    refine lv_aload_n hx hb d_M_rank_0 rfl (lv_at hl 0 rfl) ?_
    refine zget (ci := 11) (fs := [.ref m1, .int (nI n), .ref m2, .ref m3, .ref m4, .ref m5, .ref m6, .long sto, .int ni, .int ac, .int bl, .ref m7, .int (nI σ.2.2.1)]) E hK hP 0 rfl zC_M 2 (by decide) kw_592 (Or.inl rfl) rfl d_M_rank_1 ?_
    refine lv_iload_n hx hb d_M_rank_4 rfl (lv_at hl 1 rfl) ?_
    refine va_iald hx hb hK hP 2 1 rfl rfl (vp_in_nI hi (by decide)) d_M_rank_5 ?_
    rw [nI_clamp (i31 hi)]
    rw [hkd]
    refine lv_tableIn (off := 56) (tgt := 62) hx hb d_M_rank_6 (by decide) (by decide) (by decide) (by decide) ?_
    refine lv_aload_n hx hb d_M_rank_62 rfl (lv_at hl 0 rfl) ?_
    refine lv_iload_n hx hb d_M_rank_63 rfl (lv_at hl 1 rfl) ?_
    refine zcV (As := [.int (nI i)]) (rest := []) (ci := 11) E cy_M_rankDrum kw_778 ks_36 kw_776 (c_M_rankDrum l dC dI g1 g2 g3 g4 g5 g6 g7 A aM m1 m2 m3 m4 m5 m6 m7 d n kd ht tk so lt sto ni ac bl i hi σ) hK hP hD hS 0 rfl zC_M.1 rfl rfl hl.1 rfl (Nat.le_of_ble_eq_true rfl) ⟨Nat.le_of_ble_eq_true rfl, Nat.le_of_ble_eq_true rfl⟩ d_M_rank_64 ⟨Nat.le_refl _, Nat.le_refl _⟩ (fun H locs hP hD hS => ?_)
    have hP : va_P (dC, dI) classes (wm g1 g2 g3 g4 g5 g6 g7 aM m1 m2 m3 m4 m5 m6 m7 d n kd ht tk (upd so i ((kDrum (ht i) σ).2).1) lt sto ni ac bl ((kDrum (ht i) σ).2).2) H := hP
    have hD : va_D A (wm g1 g2 g3 g4 g5 g6 g7 aM m1 m2 m3 m4 m5 m6 m7 d n kd ht tk (upd so i ((kDrum (ht i) σ).2).1) lt sto ni ac bl ((kDrum (ht i) σ).2).2) := hD
    exact zri E hK hP hD hS d_M_rank_67
  · refine zM_of "CoastLampsModel" rfl (by decide) (Nat.le_of_ble_eq_true rfl) ?_
    intro p e s m below meth c ls E hP hK hD hS hl
    obtain ⟨hx, hb, hml, ho, hts, hr, hlk⟩ := id E
    have hl : lv_has ls 2 [(0, .ref aM), (1, .int (nI i))] := hl
    refine lv_aload_n hx hb d_M_rank_0 rfl (lv_at hl 0 rfl) ?_
    refine zget (ci := 11) (fs := [.ref m1, .int (nI n), .ref m2, .ref m3, .ref m4, .ref m5, .ref m6, .long sto, .int ni, .int ac, .int bl, .ref m7, .int (nI σ.2.2.1)]) E hK hP 0 rfl zC_M 2 (by decide) kw_592 (Or.inl rfl) rfl d_M_rank_1 ?_
    refine lv_iload_n hx hb d_M_rank_4 rfl (lv_at hl 1 rfl) ?_
    refine va_iald hx hb hK hP 2 1 rfl rfl (vp_in_nI hi (by decide)) d_M_rank_5 ?_
    rw [nI_clamp (i31 hi)]
    rw [hkd]
    refine lv_tableIn (off := 62) (tgt := 68) hx hb d_M_rank_6 (by decide) (by decide) (by decide) (by decide) ?_
    refine lv_aload_n hx hb d_M_rank_68 rfl (lv_at hl 0 rfl) ?_
    refine lv_iload_n hx hb d_M_rank_69 rfl (lv_at hl 1 rfl) ?_
    refine zcV (As := [.int (nI i)]) (rest := []) (ci := 11) E cy_M_rankLamp kw_774 ks_35 kw_772 (c_M_rankLamp l dC dI g1 g2 g3 g4 g5 g6 g7 A aM m1 m2 m3 m4 m5 m6 m7 d n kd ht tk so lt sto ni ac bl i hi σ) hK hP hD hS 0 rfl zC_M.1 rfl rfl hl.1 rfl (Nat.le_of_ble_eq_true rfl) ⟨Nat.le_of_ble_eq_true rfl, Nat.le_of_ble_eq_true rfl⟩ d_M_rank_70 ⟨Nat.le_refl _, Nat.le_refl _⟩ (fun H locs hP hD hS => ?_)
    have hP : va_P (dC, dI) classes (wm g1 g2 g3 g4 g5 g6 g7 aM m1 m2 m3 m4 m5 m6 m7 d n kd ht tk (upd so i ((kLamp (ht i) σ).2).1) lt sto ni ac bl ((kLamp (ht i) σ).2).2) H := hP
    have hD : va_D A (wm g1 g2 g3 g4 g5 g6 g7 aM m1 m2 m3 m4 m5 m6 m7 d n kd ht tk (upd so i ((kLamp (ht i) σ).2).1) lt sto ni ac bl ((kLamp (ht i) σ).2).2) := hD
    exact zri E hK hP hD hS d_M_rank_73
  · refine zM_of "CoastLampsModel" rfl (by decide) (Nat.le_of_ble_eq_true rfl) ?_
    intro p e s m below meth c ls E hP hK hD hS hl
    obtain ⟨hx, hb, hml, ho, hts, hr, hlk⟩ := id E
    have hl : lv_has ls 2 [(0, .ref aM), (1, .int (nI i))] := hl
    refine lv_aload_n hx hb d_M_rank_0 rfl (lv_at hl 0 rfl) ?_
    refine zget (ci := 11) (fs := [.ref m1, .int (nI n), .ref m2, .ref m3, .ref m4, .ref m5, .ref m6, .long sto, .int ni, .int ac, .int bl, .ref m7, .int (nI σ.2.2.1)]) E hK hP 0 rfl zC_M 2 (by decide) kw_592 (Or.inl rfl) rfl d_M_rank_1 ?_
    refine lv_iload_n hx hb d_M_rank_4 rfl (lv_at hl 1 rfl) ?_
    refine va_iald hx hb hK hP 2 1 rfl rfl (vp_in_nI hi (by decide)) d_M_rank_5 ?_
    rw [nI_clamp (i31 hi)]
    rw [hkd]
    refine lv_tableIn (off := 74) (tgt := 80) hx hb d_M_rank_6 (by decide) (by decide) (by decide) (by decide) ?_
    refine lv_aload_n hx hb d_M_rank_80 rfl (lv_at hl 0 rfl) ?_
    refine lv_iload_n hx hb d_M_rank_81 rfl (lv_at hl 1 rfl) ?_
    refine zcV (As := [.int (nI i)]) (rest := []) (ci := 11) E cy_M_rankFlare kw_786 ks_38 kw_784 (c_M_rankFlare l dC dI g1 g2 g3 g4 g5 g6 g7 A aM m1 m2 m3 m4 m5 m6 m7 d n kd ht tk so lt sto ni ac bl i hi σ) hK hP hD hS 0 rfl zC_M.1 rfl rfl hl.1 rfl (Nat.le_of_ble_eq_true rfl) ⟨Nat.le_of_ble_eq_true rfl, Nat.le_of_ble_eq_true rfl⟩ d_M_rank_82 ⟨Nat.le_refl _, Nat.le_refl _⟩ (fun H locs hP hD hS => ?_)
    have hP : va_P (dC, dI) classes (wm g1 g2 g3 g4 g5 g6 g7 aM m1 m2 m3 m4 m5 m6 m7 d n kd ht tk (upd so i ((kFlare (ht i) σ).2).1) lt sto ni ac bl ((kFlare (ht i) σ).2).2) H := hP
    have hD : va_D A (wm g1 g2 g3 g4 g5 g6 g7 aM m1 m2 m3 m4 m5 m6 m7 d n kd ht tk (upd so i ((kFlare (ht i) σ).2).1) lt sto ni ac bl ((kFlare (ht i) σ).2).2) := hD
    exact zri E hK hP hD hS d_M_rank_85
  · refine zM_of "CoastLampsModel" rfl (by decide) (Nat.le_of_ble_eq_true rfl) ?_
    intro p e s m below meth c ls E hP hK hD hS hl
    obtain ⟨hx, hb, hml, ho, hts, hr, hlk⟩ := id E
    have hl : lv_has ls 2 [(0, .ref aM), (1, .int (nI i))] := hl
    refine lv_aload_n hx hb d_M_rank_0 rfl (lv_at hl 0 rfl) ?_
    refine zget (ci := 11) (fs := [.ref m1, .int (nI n), .ref m2, .ref m3, .ref m4, .ref m5, .ref m6, .long sto, .int ni, .int ac, .int bl, .ref m7, .int (nI σ.2.2.1)]) E hK hP 0 rfl zC_M 2 (by decide) kw_592 (Or.inl rfl) rfl d_M_rank_1 ?_
    refine lv_iload_n hx hb d_M_rank_4 rfl (lv_at hl 1 rfl) ?_
    refine va_iald hx hb hK hP 2 1 rfl rfl (vp_in_nI hi (by decide)) d_M_rank_5 ?_
    rw [nI_clamp (i31 hi)]
    rw [hkd]
    refine lv_tableIn (off := 74) (tgt := 80) hx hb d_M_rank_6 (by decide) (by decide) (by decide) (by decide) ?_
    refine lv_aload_n hx hb d_M_rank_80 rfl (lv_at hl 0 rfl) ?_
    refine lv_iload_n hx hb d_M_rank_81 rfl (lv_at hl 1 rfl) ?_
    refine zcV (As := [.int (nI i)]) (rest := []) (ci := 11) E cy_M_rankFlare kw_786 ks_38 kw_784 (c_M_rankFlare l dC dI g1 g2 g3 g4 g5 g6 g7 A aM m1 m2 m3 m4 m5 m6 m7 d n kd ht tk so lt sto ni ac bl i hi σ) hK hP hD hS 0 rfl zC_M.1 rfl rfl hl.1 rfl (Nat.le_of_ble_eq_true rfl) ⟨Nat.le_of_ble_eq_true rfl, Nat.le_of_ble_eq_true rfl⟩ d_M_rank_82 ⟨Nat.le_refl _, Nat.le_refl _⟩ (fun H locs hP hD hS => ?_)
    have hP : va_P (dC, dI) classes (wm g1 g2 g3 g4 g5 g6 g7 aM m1 m2 m3 m4 m5 m6 m7 d n kd ht tk (upd so i ((kFlare (ht i) σ).2).1) lt sto ni ac bl ((kFlare (ht i) σ).2).2) H := hP
    have hD : va_D A (wm g1 g2 g3 g4 g5 g6 g7 aM m1 m2 m3 m4 m5 m6 m7 d n kd ht tk (upd so i ((kFlare (ht i) σ).2).1) lt sto ni ac bl ((kFlare (ht i) σ).2).2) := hD
    exact zri E hK hP hD hS d_M_rank_85
  · refine zM_of "CoastLampsModel" rfl (by decide) (Nat.le_of_ble_eq_true rfl) ?_
    intro p e s m below meth c ls E hP hK hD hS hl
    obtain ⟨hx, hb, hml, ho, hts, hr, hlk⟩ := id E
    have hl : lv_has ls 2 [(0, .ref aM), (1, .int (nI i))] := hl
    refine lv_aload_n hx hb d_M_rank_0 rfl (lv_at hl 0 rfl) ?_
    refine zget (ci := 11) (fs := [.ref m1, .int (nI n), .ref m2, .ref m3, .ref m4, .ref m5, .ref m6, .long sto, .int ni, .int ac, .int bl, .ref m7, .int (nI σ.2.2.1)]) E hK hP 0 rfl zC_M 2 (by decide) kw_592 (Or.inl rfl) rfl d_M_rank_1 ?_
    refine lv_iload_n hx hb d_M_rank_4 rfl (lv_at hl 1 rfl) ?_
    refine va_iald hx hb hK hP 2 1 rfl rfl (vp_in_nI hi (by decide)) d_M_rank_5 ?_
    rw [nI_clamp (i31 hi)]
    rw [hkd]
    refine lv_tableIn (off := 68) (tgt := 74) hx hb d_M_rank_6 (by decide) (by decide) (by decide) (by decide) ?_
    refine lv_aload_n hx hb d_M_rank_74 rfl (lv_at hl 0 rfl) ?_
    refine lv_iload_n hx hb d_M_rank_75 rfl (lv_at hl 1 rfl) ?_
    refine zcV (As := [.int (nI i)]) (rest := []) (ci := 11) E cy_M_rankOuter kw_782 ks_37 kw_780 (c_M_rankOuter l dC dI g1 g2 g3 g4 g5 g6 g7 A aM m1 m2 m3 m4 m5 m6 m7 d n kd ht tk so lt sto ni ac bl i hi σ) hK hP hD hS 0 rfl zC_M.1 rfl rfl hl.1 rfl (Nat.le_of_ble_eq_true rfl) ⟨Nat.le_of_ble_eq_true rfl, Nat.le_of_ble_eq_true rfl⟩ d_M_rank_76 ⟨Nat.le_refl _, Nat.le_refl _⟩ (fun H locs hP hD hS => ?_)
    have hP : va_P (dC, dI) classes (wm g1 g2 g3 g4 g5 g6 g7 aM m1 m2 m3 m4 m5 m6 m7 d n kd ht tk (upd so i ((kOuter (ht i) (tk i) σ).2).1) lt sto ni ac bl ((kOuter (ht i) (tk i) σ).2).2) H := hP
    have hD : va_D A (wm g1 g2 g3 g4 g5 g6 g7 aM m1 m2 m3 m4 m5 m6 m7 d n kd ht tk (upd so i ((kOuter (ht i) (tk i) σ).2).1) lt sto ni ac bl ((kOuter (ht i) (tk i) σ).2).2) := hD
    exact zri E hK hP hD hS d_M_rank_79
set_option maxHeartbeats 1000000 in
set_option maxRecDepth 100000 in
theorem c_M_toneOuter (l : Launch) (dC : Nat → ClassId) (dI : Nat → Nat → Nat) (g1 g2 g3 g4 g5 g6 g7 : ClassId) (A : Nat → Prop) (aM m1 m2 m3 m4 m5 m6 m7 : Nat) (d : Nat → Int32) (n : Nat) (kd ht tk so lt : Nat → Int32) (sto : Int64) (ni ac bl : Int32) (i : Nat) (hi : i < 60) (σ : zS) (hkd : kd i = nI (8 + 1)) : zM l y_M_toneOuter b_M_toneOuter 3 (some (FieldType.int)) 5 105 [.ref aM, .int (nI i)] (dC, dI) (t7 g1 g2 g3 g4 g5 g6 g7) A (wm g1 g2 g3 g4 g5 g6 g7 aM m1 m2 m3 m4 m5 m6 m7 d n kd ht tk (upd so i σ.1) lt sto ni ac bl σ.2) (wm g1 g2 g3 g4 g5 g6 g7 aM m1 m2 m3 m4 m5 m6 m7 d n kd ht tk (upd so i (oOuter (ht i) (tk i) σ).2.1) lt sto ni ac bl (oOuter (ht i) (tk i) σ).2.2) (some (.int (oOuter (ht i) (tk i) σ).1)) := by
  rw [show oOuter (ht i) (tk i) σ = ((oFlare (σ.1, tb 96 σ.2)).1 + (rankK 8 (ht i) (tk i) (oFlare (σ.1, tb 96 σ.2)).2).1, (rankK 8 (ht i) (tk i) (oFlare (σ.1, tb 96 σ.2)).2).2) from rfl]
  dsimp only
  refine zM_of "CoastLampsModel" rfl (by decide) (Nat.le_of_ble_eq_true rfl) ?_
  intro p e s m below meth c ls E hP hK hD hS hl
  obtain ⟨hx, hb, hml, ho, hts, hr, hlk⟩ := id E
  have hl : lv_has ls 3 [(0, .ref aM), (1, .int (nI i))] := hl
  refine lv_aload_n hx hb d_M_toneOuter_0 rfl (lv_at hl 0 rfl) ?_
  refine lv_bipush (v := 96) hx hb d_M_toneOuter_1 (by decide) ?_
  refine zcV (As := [.int 96]) (rest := []) (ci := 11) E cy_M_begins kw_670 ks_9 kw_668 (c_M_begins l dC dI g1 g2 g3 g4 g5 g6 g7 A aM m1 m2 m3 m4 m5 m6 m7 d n kd ht tk (upd so i σ.1) lt sto ni ac bl σ.2 96) hK hP hD hS 0 rfl zC_M.1 rfl rfl hl.1 rfl (Nat.le_of_ble_eq_true rfl) ⟨Nat.le_of_ble_eq_true rfl, Nat.le_of_ble_eq_true rfl⟩ d_M_toneOuter_3 ⟨Nat.le_refl _, Nat.le_refl _⟩ (fun H locs hP hD hS => ?_)
  have hP : va_P (dC, dI) classes (wm g1 g2 g3 g4 g5 g6 g7 aM m1 m2 m3 m4 m5 m6 m7 d n kd ht tk (upd so i (σ.1, tb 96 σ.2).1) lt sto ni ac bl (σ.1, tb 96 σ.2).2) H := hP
  have hD : va_D A (wm g1 g2 g3 g4 g5 g6 g7 aM m1 m2 m3 m4 m5 m6 m7 d n kd ht tk (upd so i (σ.1, tb 96 σ.2).1) lt sto ni ac bl (σ.1, tb 96 σ.2).2) := hD
  refine lv_aload_n hx hb d_M_toneOuter_6 rfl (lv_at hl 0 rfl) ?_
  refine zcV (As := []) (rest := []) (ci := 11) E cy_M_toneFlare kw_806 ks_43 kw_804 (c_M_toneFlare l dC dI g1 g2 g3 g4 g5 g6 g7 A aM m1 m2 m3 m4 m5 m6 m7 d n kd ht tk so lt sto ni ac bl i hi (σ.1, tb 96 σ.2)) hK hP hD hS 0 rfl zC_M.1 rfl rfl hl.1 rfl (Nat.le_of_ble_eq_true rfl) ⟨Nat.le_of_ble_eq_true rfl, Nat.le_of_ble_eq_true rfl⟩ d_M_toneOuter_7 ⟨Nat.le_refl _, Nat.le_refl _⟩ (fun H locs hP hD hS => ?_)
  have hP : va_P (dC, dI) classes (wm g1 g2 g3 g4 g5 g6 g7 aM m1 m2 m3 m4 m5 m6 m7 d n kd ht tk (upd so i ((oFlare (σ.1, tb 96 σ.2)).2).1) lt sto ni ac bl ((oFlare (σ.1, tb 96 σ.2)).2).2) H := hP
  have hD : va_D A (wm g1 g2 g3 g4 g5 g6 g7 aM m1 m2 m3 m4 m5 m6 m7 d n kd ht tk (upd so i ((oFlare (σ.1, tb 96 σ.2)).2).1) lt sto ni ac bl ((oFlare (σ.1, tb 96 σ.2)).2).2) := hD
  refine lv_istore_n (lv' := [(2, .int ((oFlare (σ.1, tb 96 σ.2)).1)), (0, .ref aM), (1, .int (nI i))]) hx hb d_M_toneOuter_10 rfl hl (by decide) rfl (fun ls hl => ?_)
  refine lv_iload_n hx hb d_M_toneOuter_11 rfl (lv_at hl 0 rfl) ?_
  refine lv_aload_n hx hb d_M_toneOuter_12 rfl (lv_at hl 1 rfl) ?_
  refine lv_iload_n hx hb d_M_toneOuter_13 rfl (lv_at hl 2 rfl) ?_
  refine zcV (As := [.int (nI i)]) (rest := [.int ((oFlare (σ.1, tb 96 σ.2)).1)]) (ci := 11) E cy_M_rank kw_766 ks_33 kw_764 (c_M_rank l dC dI g1 g2 g3 g4 g5 g6 g7 A aM m1 m2 m3 m4 m5 m6 m7 d n kd ht tk so lt sto ni ac bl i hi ((oFlare (σ.1, tb 96 σ.2)).2) 8 (by decide) hkd) hK hP hD hS 0 rfl zC_M.1 rfl rfl hl.1 rfl (Nat.le_of_ble_eq_true rfl) ⟨Nat.le_of_ble_eq_true rfl, Nat.le_of_ble_eq_true rfl⟩ d_M_toneOuter_14 ⟨Nat.le_refl _, Nat.le_refl _⟩ (fun H locs hP hD hS => ?_)
  have hP : va_P (dC, dI) classes (wm g1 g2 g3 g4 g5 g6 g7 aM m1 m2 m3 m4 m5 m6 m7 d n kd ht tk (upd so i ((rankK 8 (ht i) (tk i) ((oFlare (σ.1, tb 96 σ.2)).2)).2).1) lt sto ni ac bl ((rankK 8 (ht i) (tk i) ((oFlare (σ.1, tb 96 σ.2)).2)).2).2) H := hP
  have hD : va_D A (wm g1 g2 g3 g4 g5 g6 g7 aM m1 m2 m3 m4 m5 m6 m7 d n kd ht tk (upd so i ((rankK 8 (ht i) (tk i) ((oFlare (σ.1, tb 96 σ.2)).2)).2).1) lt sto ni ac bl ((rankK 8 (ht i) (tk i) ((oFlare (σ.1, tb 96 σ.2)).2)).2).2) := hD
  refine lv_iadd hx hb d_M_toneOuter_17 ?_
  exact zri E hK hP hD hS d_M_toneOuter_18
set_option maxHeartbeats 1000000 in
set_option maxRecDepth 100000 in
theorem c_M_tone (l : Launch) (dC : Nat → ClassId) (dI : Nat → Nat → Nat) (g1 g2 g3 g4 g5 g6 g7 : ClassId) (A : Nat → Prop) (aM m1 m2 m3 m4 m5 m6 m7 : Nat) (d : Nat → Int32) (n : Nat) (kd ht tk so lt : Nat → Int32) (sto : Int64) (ni ac bl : Int32) (i : Nat) (hi : i < 60) (σ : zS) (k : Nat) (hk : k < 9) (hkd : kd i = nI (k + 1)) (hh : hornedK k = true) : zM l y_M_tone b_M_tone 2 (some (FieldType.int)) 6 127 [.ref aM, .int (nI i)] (dC, dI) (t7 g1 g2 g3 g4 g5 g6 g7) A (wm g1 g2 g3 g4 g5 g6 g7 aM m1 m2 m3 m4 m5 m6 m7 d n kd ht tk (upd so i σ.1) lt sto ni ac bl σ.2) (wm g1 g2 g3 g4 g5 g6 g7 aM m1 m2 m3 m4 m5 m6 m7 d n kd ht tk (upd so i (toneK k d (ht i) (tk i) σ).2.1) lt sto ni ac bl (toneK k d (ht i) (tk i) σ).2.2) (some (.int (toneK k d (ht i) (tk i) σ).1)) := by
  rcases (show k = 0 ∨ k = 1 ∨ k = 2 ∨ k = 3 ∨ k = 4 ∨ k = 5 ∨ k = 6 ∨ k = 7 ∨ k = 8 by omega) with rfl | rfl | rfl | rfl | rfl | rfl | rfl | rfl | rfl
  · exact absurd hh (by decide)
  · exact absurd hh (by decide)
  · refine zM_of "CoastLampsModel" rfl (by decide) (Nat.le_of_ble_eq_true rfl) ?_
    intro p e s m below meth c ls E hP hK hD hS hl
    obtain ⟨hx, hb, hml, ho, hts, hr, hlk⟩ := id E
    have hl : lv_has ls 2 [(0, .ref aM), (1, .int (nI i))] := hl
    refine lv_aload_n hx hb d_M_tone_0 rfl (lv_at hl 0 rfl) ?_
    refine zget (ci := 11) (fs := [.ref m1, .int (nI n), .ref m2, .ref m3, .ref m4, .ref m5, .ref m6, .long sto, .int ni, .int ac, .int bl, .ref m7, .int (nI σ.2.2.1)]) E hK hP 0 rfl zC_M 2 (by decide) kw_592 (Or.inl rfl) rfl d_M_tone_1 ?_
    refine lv_iload_n hx hb d_M_tone_4 rfl (lv_at hl 1 rfl) ?_
    refine va_iald hx hb hK hP 2 1 rfl rfl (vp_in_nI hi (by decide)) d_M_tone_5 ?_
    rw [nI_clamp (i31 hi)]
    rw [hkd]
    refine lv_tableOut (tgt := 60) hx hb d_M_tone_6 (by decide) (by decide) ?_
    refine lv_aload_n hx hb d_M_tone_60 rfl (lv_at hl 0 rfl) ?_
    refine zcV (As := []) (rest := []) (ci := 11) E cy_M_toneOil kw_802 ks_42 kw_800 (c_M_toneOil l dC dI g1 g2 g3 g4 g5 g6 g7 A aM m1 m2 m3 m4 m5 m6 m7 d n kd ht tk so lt sto ni ac bl i hi σ) hK hP hD hS 0 rfl zC_M.1 rfl rfl hl.1 rfl (Nat.le_of_ble_eq_true rfl) ⟨Nat.le_of_ble_eq_true rfl, Nat.le_of_ble_eq_true rfl⟩ d_M_tone_61 ⟨Nat.le_refl _, Nat.le_refl _⟩ (fun H locs hP hD hS => ?_)
    have hP : va_P (dC, dI) classes (wm g1 g2 g3 g4 g5 g6 g7 aM m1 m2 m3 m4 m5 m6 m7 d n kd ht tk (upd so i ((oOil σ).2).1) lt sto ni ac bl ((oOil σ).2).2) H := hP
    have hD : va_D A (wm g1 g2 g3 g4 g5 g6 g7 aM m1 m2 m3 m4 m5 m6 m7 d n kd ht tk (upd so i ((oOil σ).2).1) lt sto ni ac bl ((oOil σ).2).2) := hD
    exact zri E hK hP hD hS d_M_tone_64
  · refine zM_of "CoastLampsModel" rfl (by decide) (Nat.le_of_ble_eq_true rfl) ?_
    intro p e s m below meth c ls E hP hK hD hS hl
    obtain ⟨hx, hb, hml, ho, hts, hr, hlk⟩ := id E
    have hl : lv_has ls 2 [(0, .ref aM), (1, .int (nI i))] := hl
    refine lv_aload_n hx hb d_M_tone_0 rfl (lv_at hl 0 rfl) ?_
    refine zget (ci := 11) (fs := [.ref m1, .int (nI n), .ref m2, .ref m3, .ref m4, .ref m5, .ref m6, .long sto, .int ni, .int ac, .int bl, .ref m7, .int (nI σ.2.2.1)]) E hK hP 0 rfl zC_M 2 (by decide) kw_592 (Or.inl rfl) rfl d_M_tone_1 ?_
    refine lv_iload_n hx hb d_M_tone_4 rfl (lv_at hl 1 rfl) ?_
    refine va_iald hx hb hK hP 2 1 rfl rfl (vp_in_nI hi (by decide)) d_M_tone_5 ?_
    rw [nI_clamp (i31 hi)]
    rw [hkd]
    refine lv_tableIn (off := 38) (tgt := 44) hx hb d_M_tone_6 (by decide) (by decide) (by decide) (by decide) ?_
    refine lv_aload_n hx hb d_M_tone_44 rfl (lv_at hl 0 rfl) ?_
    refine zcV (As := []) (rest := []) (ci := 11) E cy_M_toneDrum kw_798 ks_41 kw_796 (c_M_toneDrum l dC dI g1 g2 g3 g4 g5 g6 g7 A aM m1 m2 m3 m4 m5 m6 m7 d n kd ht tk so lt sto ni ac bl i hi σ) hK hP hD hS 0 rfl zC_M.1 rfl rfl hl.1 rfl (Nat.le_of_ble_eq_true rfl) ⟨Nat.le_of_ble_eq_true rfl, Nat.le_of_ble_eq_true rfl⟩ d_M_tone_45 ⟨Nat.le_refl _, Nat.le_refl _⟩ (fun H locs hP hD hS => ?_)
    have hP : va_P (dC, dI) classes (wm g1 g2 g3 g4 g5 g6 g7 aM m1 m2 m3 m4 m5 m6 m7 d n kd ht tk (upd so i ((oDrum d σ).2).1) lt sto ni ac bl ((oDrum d σ).2).2) H := hP
    have hD : va_D A (wm g1 g2 g3 g4 g5 g6 g7 aM m1 m2 m3 m4 m5 m6 m7 d n kd ht tk (upd so i ((oDrum d σ).2).1) lt sto ni ac bl ((oDrum d σ).2).2) := hD
    exact zri E hK hP hD hS d_M_tone_48
  · refine zM_of "CoastLampsModel" rfl (by decide) (Nat.le_of_ble_eq_true rfl) ?_
    intro p e s m below meth c ls E hP hK hD hS hl
    obtain ⟨hx, hb, hml, ho, hts, hr, hlk⟩ := id E
    have hl : lv_has ls 2 [(0, .ref aM), (1, .int (nI i))] := hl
    refine lv_aload_n hx hb d_M_tone_0 rfl (lv_at hl 0 rfl) ?_
    refine zget (ci := 11) (fs := [.ref m1, .int (nI n), .ref m2, .ref m3, .ref m4, .ref m5, .ref m6, .long sto, .int ni, .int ac, .int bl, .ref m7, .int (nI σ.2.2.1)]) E hK hP 0 rfl zC_M 2 (by decide) kw_592 (Or.inl rfl) rfl d_M_tone_1 ?_
    refine lv_iload_n hx hb d_M_tone_4 rfl (lv_at hl 1 rfl) ?_
    refine va_iald hx hb hK hP 2 1 rfl rfl (vp_in_nI hi (by decide)) d_M_tone_5 ?_
    rw [nI_clamp (i31 hi)]
    rw [hkd]
    refine lv_tableIn (off := 38) (tgt := 44) hx hb d_M_tone_6 (by decide) (by decide) (by decide) (by decide) ?_
    refine lv_aload_n hx hb d_M_tone_44 rfl (lv_at hl 0 rfl) ?_
    refine zcV (As := []) (rest := []) (ci := 11) E cy_M_toneDrum kw_798 ks_41 kw_796 (c_M_toneDrum l dC dI g1 g2 g3 g4 g5 g6 g7 A aM m1 m2 m3 m4 m5 m6 m7 d n kd ht tk so lt sto ni ac bl i hi σ) hK hP hD hS 0 rfl zC_M.1 rfl rfl hl.1 rfl (Nat.le_of_ble_eq_true rfl) ⟨Nat.le_of_ble_eq_true rfl, Nat.le_of_ble_eq_true rfl⟩ d_M_tone_45 ⟨Nat.le_refl _, Nat.le_refl _⟩ (fun H locs hP hD hS => ?_)
    have hP : va_P (dC, dI) classes (wm g1 g2 g3 g4 g5 g6 g7 aM m1 m2 m3 m4 m5 m6 m7 d n kd ht tk (upd so i ((oDrum d σ).2).1) lt sto ni ac bl ((oDrum d σ).2).2) H := hP
    have hD : va_D A (wm g1 g2 g3 g4 g5 g6 g7 aM m1 m2 m3 m4 m5 m6 m7 d n kd ht tk (upd so i ((oDrum d σ).2).1) lt sto ni ac bl ((oDrum d σ).2).2) := hD
    exact zri E hK hP hD hS d_M_tone_48
  · exact absurd hh (by decide)
  · refine zM_of "CoastLampsModel" rfl (by decide) (Nat.le_of_ble_eq_true rfl) ?_
    intro p e s m below meth c ls E hP hK hD hS hl
    obtain ⟨hx, hb, hml, ho, hts, hr, hlk⟩ := id E
    have hl : lv_has ls 2 [(0, .ref aM), (1, .int (nI i))] := hl
    refine lv_aload_n hx hb d_M_tone_0 rfl (lv_at hl 0 rfl) ?_
    refine zget (ci := 11) (fs := [.ref m1, .int (nI n), .ref m2, .ref m3, .ref m4, .ref m5, .ref m6, .long sto, .int ni, .int ac, .int bl, .ref m7, .int (nI σ.2.2.1)]) E hK hP 0 rfl zC_M 2 (by decide) kw_592 (Or.inl rfl) rfl d_M_tone_1 ?_
    refine lv_iload_n hx hb d_M_tone_4 rfl (lv_at hl 1 rfl) ?_
    refine va_iald hx hb hK hP 2 1 rfl rfl (vp_in_nI hi (by decide)) d_M_tone_5 ?_
    rw [nI_clamp (i31 hi)]
    rw [hkd]
    refine lv_tableIn (off := 43) (tgt := 49) hx hb d_M_tone_6 (by decide) (by decide) (by decide) (by decide) ?_
    refine lv_aload_n hx hb d_M_tone_49 rfl (lv_at hl 0 rfl) ?_
    refine zcV (As := []) (rest := []) (ci := 11) E cy_M_toneFlare kw_806 ks_43 kw_804 (c_M_toneFlare l dC dI g1 g2 g3 g4 g5 g6 g7 A aM m1 m2 m3 m4 m5 m6 m7 d n kd ht tk so lt sto ni ac bl i hi σ) hK hP hD hS 0 rfl zC_M.1 rfl rfl hl.1 rfl (Nat.le_of_ble_eq_true rfl) ⟨Nat.le_of_ble_eq_true rfl, Nat.le_of_ble_eq_true rfl⟩ d_M_tone_50 ⟨Nat.le_refl _, Nat.le_refl _⟩ (fun H locs hP hD hS => ?_)
    have hP : va_P (dC, dI) classes (wm g1 g2 g3 g4 g5 g6 g7 aM m1 m2 m3 m4 m5 m6 m7 d n kd ht tk (upd so i ((oFlare σ).2).1) lt sto ni ac bl ((oFlare σ).2).2) H := hP
    have hD : va_D A (wm g1 g2 g3 g4 g5 g6 g7 aM m1 m2 m3 m4 m5 m6 m7 d n kd ht tk (upd so i ((oFlare σ).2).1) lt sto ni ac bl ((oFlare σ).2).2) := hD
    exact zri E hK hP hD hS d_M_tone_53
  · refine zM_of "CoastLampsModel" rfl (by decide) (Nat.le_of_ble_eq_true rfl) ?_
    intro p e s m below meth c ls E hP hK hD hS hl
    obtain ⟨hx, hb, hml, ho, hts, hr, hlk⟩ := id E
    have hl : lv_has ls 2 [(0, .ref aM), (1, .int (nI i))] := hl
    refine lv_aload_n hx hb d_M_tone_0 rfl (lv_at hl 0 rfl) ?_
    refine zget (ci := 11) (fs := [.ref m1, .int (nI n), .ref m2, .ref m3, .ref m4, .ref m5, .ref m6, .long sto, .int ni, .int ac, .int bl, .ref m7, .int (nI σ.2.2.1)]) E hK hP 0 rfl zC_M 2 (by decide) kw_592 (Or.inl rfl) rfl d_M_tone_1 ?_
    refine lv_iload_n hx hb d_M_tone_4 rfl (lv_at hl 1 rfl) ?_
    refine va_iald hx hb hK hP 2 1 rfl rfl (vp_in_nI hi (by decide)) d_M_tone_5 ?_
    rw [nI_clamp (i31 hi)]
    rw [hkd]
    refine lv_tableIn (off := 43) (tgt := 49) hx hb d_M_tone_6 (by decide) (by decide) (by decide) (by decide) ?_
    refine lv_aload_n hx hb d_M_tone_49 rfl (lv_at hl 0 rfl) ?_
    refine zcV (As := []) (rest := []) (ci := 11) E cy_M_toneFlare kw_806 ks_43 kw_804 (c_M_toneFlare l dC dI g1 g2 g3 g4 g5 g6 g7 A aM m1 m2 m3 m4 m5 m6 m7 d n kd ht tk so lt sto ni ac bl i hi σ) hK hP hD hS 0 rfl zC_M.1 rfl rfl hl.1 rfl (Nat.le_of_ble_eq_true rfl) ⟨Nat.le_of_ble_eq_true rfl, Nat.le_of_ble_eq_true rfl⟩ d_M_tone_50 ⟨Nat.le_refl _, Nat.le_refl _⟩ (fun H locs hP hD hS => ?_)
    have hP : va_P (dC, dI) classes (wm g1 g2 g3 g4 g5 g6 g7 aM m1 m2 m3 m4 m5 m6 m7 d n kd ht tk (upd so i ((oFlare σ).2).1) lt sto ni ac bl ((oFlare σ).2).2) H := hP
    have hD : va_D A (wm g1 g2 g3 g4 g5 g6 g7 aM m1 m2 m3 m4 m5 m6 m7 d n kd ht tk (upd so i ((oFlare σ).2).1) lt sto ni ac bl ((oFlare σ).2).2) := hD
    exact zri E hK hP hD hS d_M_tone_53
  · refine zM_of "CoastLampsModel" rfl (by decide) (Nat.le_of_ble_eq_true rfl) ?_
    intro p e s m below meth c ls E hP hK hD hS hl
    obtain ⟨hx, hb, hml, ho, hts, hr, hlk⟩ := id E
    have hl : lv_has ls 2 [(0, .ref aM), (1, .int (nI i))] := hl
    refine lv_aload_n hx hb d_M_tone_0 rfl (lv_at hl 0 rfl) ?_
    refine zget (ci := 11) (fs := [.ref m1, .int (nI n), .ref m2, .ref m3, .ref m4, .ref m5, .ref m6, .long sto, .int ni, .int ac, .int bl, .ref m7, .int (nI σ.2.2.1)]) E hK hP 0 rfl zC_M 2 (by decide) kw_592 (Or.inl rfl) rfl d_M_tone_1 ?_
    refine lv_iload_n hx hb d_M_tone_4 rfl (lv_at hl 1 rfl) ?_
    refine va_iald hx hb hK hP 2 1 rfl rfl (vp_in_nI hi (by decide)) d_M_tone_5 ?_
    rw [nI_clamp (i31 hi)]
    rw [hkd]
    refine lv_tableIn (off := 48) (tgt := 54) hx hb d_M_tone_6 (by decide) (by decide) (by decide) (by decide) ?_
    refine lv_aload_n hx hb d_M_tone_54 rfl (lv_at hl 0 rfl) ?_
    refine lv_iload_n hx hb d_M_tone_55 rfl (lv_at hl 1 rfl) ?_
    refine zcV (As := [.int (nI i)]) (rest := []) (ci := 11) E cy_M_toneOuter kw_810 ks_44 kw_808 (c_M_toneOuter l dC dI g1 g2 g3 g4 g5 g6 g7 A aM m1 m2 m3 m4 m5 m6 m7 d n kd ht tk so lt sto ni ac bl i hi σ hkd) hK hP hD hS 0 rfl zC_M.1 rfl rfl hl.1 rfl (Nat.le_of_ble_eq_true rfl) ⟨Nat.le_of_ble_eq_true rfl, Nat.le_of_ble_eq_true rfl⟩ d_M_tone_56 ⟨Nat.le_refl _, Nat.le_refl _⟩ (fun H locs hP hD hS => ?_)
    have hP : va_P (dC, dI) classes (wm g1 g2 g3 g4 g5 g6 g7 aM m1 m2 m3 m4 m5 m6 m7 d n kd ht tk (upd so i ((oOuter (ht i) (tk i) σ).2).1) lt sto ni ac bl ((oOuter (ht i) (tk i) σ).2).2) H := hP
    have hD : va_D A (wm g1 g2 g3 g4 g5 g6 g7 aM m1 m2 m3 m4 m5 m6 m7 d n kd ht tk (upd so i ((oOuter (ht i) (tk i) σ).2).1) lt sto ni ac bl ((oOuter (ht i) (tk i) σ).2).2) := hD
    exact zri E hK hP hD hS d_M_tone_59
set_option maxHeartbeats 1000000 in
set_option maxRecDepth 100000 in
theorem c_M_horn (l : Launch) (dC : Nat → ClassId) (dI : Nat → Nat → Nat) (g1 g2 g3 g4 g5 g6 g7 : ClassId) (A : Nat → Prop) (aM m1 m2 m3 m4 m5 m6 m7 : Nat) (d : Nat → Int32) (n : Nat) (kd ht tk so lt : Nat → Int32) (sto : Int64) (ni ac bl : Int32) (i : Nat) (hi : i < 60) (σ : zS) (k : Nat) (hk : k < 9) (hkd : kd i = nI (k + 1)) (hh : hornedK k = true) (x : Int32) : zM l y_M_horn b_M_horn 4 (some (FieldType.int)) 7 148 [.ref aM, .int (nI i), .int x] (dC, dI) (t7 g1 g2 g3 g4 g5 g6 g7) A (wm g1 g2 g3 g4 g5 g6 g7 aM m1 m2 m3 m4 m5 m6 m7 d n kd ht tk (upd so i σ.1) lt sto ni ac bl σ.2) (wm g1 g2 g3 g4 g5 g6 g7 aM m1 m2 m3 m4 m5 m6 m7 d n kd ht tk (upd so i (hornK k d (ht i) (tk i) x σ).2.1) lt sto ni ac bl (hornK k d (ht i) (tk i) x σ).2.2) (some (.int (hornK k d (ht i) (tk i) x σ).1)) := by
  rcases (show k = 0 ∨ k = 1 ∨ k = 2 ∨ k = 3 ∨ k = 4 ∨ k = 5 ∨ k = 6 ∨ k = 7 ∨ k = 8 by omega) with rfl | rfl | rfl | rfl | rfl | rfl | rfl | rfl | rfl
  · exact absurd hh (by decide)
  · exact absurd hh (by decide)
  · rw [show hornK 2 d (ht i) (tk i) x σ = ((toneK 2 d (ht i) (tk i) (σ.1, tb 5 σ.2)).1 * x + (reachK 2 d (ht i) 0 (toneK 2 d (ht i) (tk i) (σ.1, tb 5 σ.2)).2).1, (reachK 2 d (ht i) 0 (toneK 2 d (ht i) (tk i) (σ.1, tb 5 σ.2)).2).2) from rfl]
    dsimp only
    refine zM_of "CoastLampsModel" rfl (by decide) (Nat.le_of_ble_eq_true rfl) ?_
    intro p e s m below meth c ls E hP hK hD hS hl
    obtain ⟨hx, hb, hml, ho, hts, hr, hlk⟩ := id E
    have hl : lv_has ls 4 [(0, .ref aM), (1, .int (nI i)), (2, .int x)] := hl
    refine lv_aload_n hx hb d_M_horn_0 rfl (lv_at hl 0 rfl) ?_
    refine zget (ci := 11) (fs := [.ref m1, .int (nI n), .ref m2, .ref m3, .ref m4, .ref m5, .ref m6, .long sto, .int ni, .int ac, .int bl, .ref m7, .int (nI σ.2.2.1)]) E hK hP 0 rfl zC_M 2 (by decide) kw_592 (Or.inl rfl) rfl d_M_horn_1 ?_
    refine lv_iload_n hx hb d_M_horn_4 rfl (lv_at hl 1 rfl) ?_
    refine va_iald hx hb hK hP 2 1 rfl rfl (vp_in_nI hi (by decide)) d_M_horn_5 ?_
    rw [nI_clamp (i31 hi)]
    rw [hkd]
    refine lv_iconst (v := 5) hx hb d_M_horn_6 (by decide) ?_
    refine lv_icmp_ne (tgt := 24) hx hb d_M_horn_7 (by decide) (fun _ => ?_) (fun h9 => absurd h9 (by decide))
    refine lv_aload_n hx hb d_M_horn_24 rfl (lv_at hl 0 rfl) ?_
    refine lv_iconst (v := 5) hx hb d_M_horn_25 (by decide) ?_
    refine zcV (As := [.int 5]) (rest := []) (ci := 11) E cy_M_begins kw_670 ks_9 kw_668 (c_M_begins l dC dI g1 g2 g3 g4 g5 g6 g7 A aM m1 m2 m3 m4 m5 m6 m7 d n kd ht tk (upd so i σ.1) lt sto ni ac bl σ.2 5) hK hP hD hS 0 rfl zC_M.1 rfl rfl hl.1 rfl (Nat.le_of_ble_eq_true rfl) ⟨Nat.le_of_ble_eq_true rfl, Nat.le_of_ble_eq_true rfl⟩ d_M_horn_26 ⟨Nat.le_refl _, Nat.le_refl _⟩ (fun H locs hP hD hS => ?_)
    have hP : va_P (dC, dI) classes (wm g1 g2 g3 g4 g5 g6 g7 aM m1 m2 m3 m4 m5 m6 m7 d n kd ht tk (upd so i (σ.1, tb 5 σ.2).1) lt sto ni ac bl (σ.1, tb 5 σ.2).2) H := hP
    have hD : va_D A (wm g1 g2 g3 g4 g5 g6 g7 aM m1 m2 m3 m4 m5 m6 m7 d n kd ht tk (upd so i (σ.1, tb 5 σ.2).1) lt sto ni ac bl (σ.1, tb 5 σ.2).2) := hD
    refine lv_aload_n hx hb d_M_horn_29 rfl (lv_at hl 0 rfl) ?_
    refine lv_iload_n hx hb d_M_horn_30 rfl (lv_at hl 1 rfl) ?_
    refine zcV (As := [.int (nI i)]) (rest := []) (ci := 11) E cy_M_tone kw_794 ks_40 kw_792 (c_M_tone l dC dI g1 g2 g3 g4 g5 g6 g7 A aM m1 m2 m3 m4 m5 m6 m7 d n kd ht tk so lt sto ni ac bl i hi (σ.1, tb 5 σ.2) 2 (by decide) hkd (by decide)) hK hP hD hS 0 rfl zC_M.1 rfl rfl hl.1 rfl (Nat.le_of_ble_eq_true rfl) ⟨Nat.le_of_ble_eq_true rfl, Nat.le_of_ble_eq_true rfl⟩ d_M_horn_31 ⟨Nat.le_refl _, Nat.le_refl _⟩ (fun H locs hP hD hS => ?_)
    have hP : va_P (dC, dI) classes (wm g1 g2 g3 g4 g5 g6 g7 aM m1 m2 m3 m4 m5 m6 m7 d n kd ht tk (upd so i ((toneK 2 d (ht i) (tk i) (σ.1, tb 5 σ.2)).2).1) lt sto ni ac bl ((toneK 2 d (ht i) (tk i) (σ.1, tb 5 σ.2)).2).2) H := hP
    have hD : va_D A (wm g1 g2 g3 g4 g5 g6 g7 aM m1 m2 m3 m4 m5 m6 m7 d n kd ht tk (upd so i ((toneK 2 d (ht i) (tk i) (σ.1, tb 5 σ.2)).2).1) lt sto ni ac bl ((toneK 2 d (ht i) (tk i) (σ.1, tb 5 σ.2)).2).2) := hD
    refine lv_iload_n hx hb d_M_horn_34 rfl (lv_at hl 2 rfl) ?_
    refine lv_imul hx hb d_M_horn_35 ?_
    refine lv_istore_n (lv' := [(3, .int (((toneK 2 d (ht i) (tk i) (σ.1, tb 5 σ.2)).1) * x)), (0, .ref aM), (1, .int (nI i)), (2, .int x)]) hx hb d_M_horn_36 rfl hl (by decide) rfl (fun ls hl => ?_)
    refine lv_iload_n hx hb d_M_horn_37 rfl (lv_at hl 0 rfl) ?_
    refine lv_aload_n hx hb d_M_horn_38 rfl (lv_at hl 1 rfl) ?_
    refine lv_iload_n hx hb d_M_horn_39 rfl (lv_at hl 2 rfl) ?_
    refine lv_iconst (v := 0) hx hb d_M_horn_40 (by decide) ?_
    refine zcV (As := [.int (nI i), .int 0]) (rest := [.int (((toneK 2 d (ht i) (tk i) (σ.1, tb 5 σ.2)).1) * x)]) (ci := 11) E cy_M_reach kw_694 ks_15 kw_692 (c_M_reach l dC dI g1 g2 g3 g4 g5 g6 g7 A aM m1 m2 m3 m4 m5 m6 m7 d n kd ht tk so lt sto ni ac bl i hi ((toneK 2 d (ht i) (tk i) (σ.1, tb 5 σ.2)).2) 2 (by decide) hkd 0) hK hP hD hS 0 rfl zC_M.1 rfl rfl hl.1 rfl (Nat.le_of_ble_eq_true rfl) ⟨Nat.le_of_ble_eq_true rfl, Nat.le_of_ble_eq_true rfl⟩ d_M_horn_41 ⟨Nat.le_refl _, Nat.le_refl _⟩ (fun H locs hP hD hS => ?_)
    have hP : va_P (dC, dI) classes (wm g1 g2 g3 g4 g5 g6 g7 aM m1 m2 m3 m4 m5 m6 m7 d n kd ht tk (upd so i ((reachK 2 d (ht i) 0 ((toneK 2 d (ht i) (tk i) (σ.1, tb 5 σ.2)).2)).2).1) lt sto ni ac bl ((reachK 2 d (ht i) 0 ((toneK 2 d (ht i) (tk i) (σ.1, tb 5 σ.2)).2)).2).2) H := hP
    have hD : va_D A (wm g1 g2 g3 g4 g5 g6 g7 aM m1 m2 m3 m4 m5 m6 m7 d n kd ht tk (upd so i ((reachK 2 d (ht i) 0 ((toneK 2 d (ht i) (tk i) (σ.1, tb 5 σ.2)).2)).2).1) lt sto ni ac bl ((reachK 2 d (ht i) 0 ((toneK 2 d (ht i) (tk i) (σ.1, tb 5 σ.2)).2)).2).2) := hD
    refine lv_iadd hx hb d_M_horn_44 ?_
    exact zri E hK hP hD hS d_M_horn_45
  · rw [show hornK 3 d (ht i) (tk i) x σ = ((toneK 3 d (ht i) (tk i) (σ.1, tb 5 σ.2)).1 * x + (reachK 3 d (ht i) 0 (toneK 3 d (ht i) (tk i) (σ.1, tb 5 σ.2)).2).1, (reachK 3 d (ht i) 0 (toneK 3 d (ht i) (tk i) (σ.1, tb 5 σ.2)).2).2) from rfl]
    dsimp only
    refine zM_of "CoastLampsModel" rfl (by decide) (Nat.le_of_ble_eq_true rfl) ?_
    intro p e s m below meth c ls E hP hK hD hS hl
    obtain ⟨hx, hb, hml, ho, hts, hr, hlk⟩ := id E
    have hl : lv_has ls 4 [(0, .ref aM), (1, .int (nI i)), (2, .int x)] := hl
    refine lv_aload_n hx hb d_M_horn_0 rfl (lv_at hl 0 rfl) ?_
    refine zget (ci := 11) (fs := [.ref m1, .int (nI n), .ref m2, .ref m3, .ref m4, .ref m5, .ref m6, .long sto, .int ni, .int ac, .int bl, .ref m7, .int (nI σ.2.2.1)]) E hK hP 0 rfl zC_M 2 (by decide) kw_592 (Or.inl rfl) rfl d_M_horn_1 ?_
    refine lv_iload_n hx hb d_M_horn_4 rfl (lv_at hl 1 rfl) ?_
    refine va_iald hx hb hK hP 2 1 rfl rfl (vp_in_nI hi (by decide)) d_M_horn_5 ?_
    rw [nI_clamp (i31 hi)]
    rw [hkd]
    refine lv_iconst (v := 5) hx hb d_M_horn_6 (by decide) ?_
    refine lv_icmp_ne (tgt := 24) hx hb d_M_horn_7 (by decide) (fun _ => ?_) (fun h9 => absurd h9 (by decide))
    refine lv_aload_n hx hb d_M_horn_24 rfl (lv_at hl 0 rfl) ?_
    refine lv_iconst (v := 5) hx hb d_M_horn_25 (by decide) ?_
    refine zcV (As := [.int 5]) (rest := []) (ci := 11) E cy_M_begins kw_670 ks_9 kw_668 (c_M_begins l dC dI g1 g2 g3 g4 g5 g6 g7 A aM m1 m2 m3 m4 m5 m6 m7 d n kd ht tk (upd so i σ.1) lt sto ni ac bl σ.2 5) hK hP hD hS 0 rfl zC_M.1 rfl rfl hl.1 rfl (Nat.le_of_ble_eq_true rfl) ⟨Nat.le_of_ble_eq_true rfl, Nat.le_of_ble_eq_true rfl⟩ d_M_horn_26 ⟨Nat.le_refl _, Nat.le_refl _⟩ (fun H locs hP hD hS => ?_)
    have hP : va_P (dC, dI) classes (wm g1 g2 g3 g4 g5 g6 g7 aM m1 m2 m3 m4 m5 m6 m7 d n kd ht tk (upd so i (σ.1, tb 5 σ.2).1) lt sto ni ac bl (σ.1, tb 5 σ.2).2) H := hP
    have hD : va_D A (wm g1 g2 g3 g4 g5 g6 g7 aM m1 m2 m3 m4 m5 m6 m7 d n kd ht tk (upd so i (σ.1, tb 5 σ.2).1) lt sto ni ac bl (σ.1, tb 5 σ.2).2) := hD
    refine lv_aload_n hx hb d_M_horn_29 rfl (lv_at hl 0 rfl) ?_
    refine lv_iload_n hx hb d_M_horn_30 rfl (lv_at hl 1 rfl) ?_
    refine zcV (As := [.int (nI i)]) (rest := []) (ci := 11) E cy_M_tone kw_794 ks_40 kw_792 (c_M_tone l dC dI g1 g2 g3 g4 g5 g6 g7 A aM m1 m2 m3 m4 m5 m6 m7 d n kd ht tk so lt sto ni ac bl i hi (σ.1, tb 5 σ.2) 3 (by decide) hkd (by decide)) hK hP hD hS 0 rfl zC_M.1 rfl rfl hl.1 rfl (Nat.le_of_ble_eq_true rfl) ⟨Nat.le_of_ble_eq_true rfl, Nat.le_of_ble_eq_true rfl⟩ d_M_horn_31 ⟨Nat.le_refl _, Nat.le_refl _⟩ (fun H locs hP hD hS => ?_)
    have hP : va_P (dC, dI) classes (wm g1 g2 g3 g4 g5 g6 g7 aM m1 m2 m3 m4 m5 m6 m7 d n kd ht tk (upd so i ((toneK 3 d (ht i) (tk i) (σ.1, tb 5 σ.2)).2).1) lt sto ni ac bl ((toneK 3 d (ht i) (tk i) (σ.1, tb 5 σ.2)).2).2) H := hP
    have hD : va_D A (wm g1 g2 g3 g4 g5 g6 g7 aM m1 m2 m3 m4 m5 m6 m7 d n kd ht tk (upd so i ((toneK 3 d (ht i) (tk i) (σ.1, tb 5 σ.2)).2).1) lt sto ni ac bl ((toneK 3 d (ht i) (tk i) (σ.1, tb 5 σ.2)).2).2) := hD
    refine lv_iload_n hx hb d_M_horn_34 rfl (lv_at hl 2 rfl) ?_
    refine lv_imul hx hb d_M_horn_35 ?_
    refine lv_istore_n (lv' := [(3, .int (((toneK 3 d (ht i) (tk i) (σ.1, tb 5 σ.2)).1) * x)), (0, .ref aM), (1, .int (nI i)), (2, .int x)]) hx hb d_M_horn_36 rfl hl (by decide) rfl (fun ls hl => ?_)
    refine lv_iload_n hx hb d_M_horn_37 rfl (lv_at hl 0 rfl) ?_
    refine lv_aload_n hx hb d_M_horn_38 rfl (lv_at hl 1 rfl) ?_
    refine lv_iload_n hx hb d_M_horn_39 rfl (lv_at hl 2 rfl) ?_
    refine lv_iconst (v := 0) hx hb d_M_horn_40 (by decide) ?_
    refine zcV (As := [.int (nI i), .int 0]) (rest := [.int (((toneK 3 d (ht i) (tk i) (σ.1, tb 5 σ.2)).1) * x)]) (ci := 11) E cy_M_reach kw_694 ks_15 kw_692 (c_M_reach l dC dI g1 g2 g3 g4 g5 g6 g7 A aM m1 m2 m3 m4 m5 m6 m7 d n kd ht tk so lt sto ni ac bl i hi ((toneK 3 d (ht i) (tk i) (σ.1, tb 5 σ.2)).2) 3 (by decide) hkd 0) hK hP hD hS 0 rfl zC_M.1 rfl rfl hl.1 rfl (Nat.le_of_ble_eq_true rfl) ⟨Nat.le_of_ble_eq_true rfl, Nat.le_of_ble_eq_true rfl⟩ d_M_horn_41 ⟨Nat.le_refl _, Nat.le_refl _⟩ (fun H locs hP hD hS => ?_)
    have hP : va_P (dC, dI) classes (wm g1 g2 g3 g4 g5 g6 g7 aM m1 m2 m3 m4 m5 m6 m7 d n kd ht tk (upd so i ((reachK 3 d (ht i) 0 ((toneK 3 d (ht i) (tk i) (σ.1, tb 5 σ.2)).2)).2).1) lt sto ni ac bl ((reachK 3 d (ht i) 0 ((toneK 3 d (ht i) (tk i) (σ.1, tb 5 σ.2)).2)).2).2) H := hP
    have hD : va_D A (wm g1 g2 g3 g4 g5 g6 g7 aM m1 m2 m3 m4 m5 m6 m7 d n kd ht tk (upd so i ((reachK 3 d (ht i) 0 ((toneK 3 d (ht i) (tk i) (σ.1, tb 5 σ.2)).2)).2).1) lt sto ni ac bl ((reachK 3 d (ht i) 0 ((toneK 3 d (ht i) (tk i) (σ.1, tb 5 σ.2)).2)).2).2) := hD
    refine lv_iadd hx hb d_M_horn_44 ?_
    exact zri E hK hP hD hS d_M_horn_45
  · rw [show hornK 4 d (ht i) (tk i) x σ = ((toneK 4 d (ht i) (tk i) (σ.1, tb 55 σ.2)).1 + x, (toneK 4 d (ht i) (tk i) (σ.1, tb 55 σ.2)).2) from rfl]
    dsimp only
    refine zM_of "CoastLampsModel" rfl (by decide) (Nat.le_of_ble_eq_true rfl) ?_
    intro p e s m below meth c ls E hP hK hD hS hl
    obtain ⟨hx, hb, hml, ho, hts, hr, hlk⟩ := id E
    have hl : lv_has ls 4 [(0, .ref aM), (1, .int (nI i)), (2, .int x)] := hl
    refine lv_aload_n hx hb d_M_horn_0 rfl (lv_at hl 0 rfl) ?_
    refine zget (ci := 11) (fs := [.ref m1, .int (nI n), .ref m2, .ref m3, .ref m4, .ref m5, .ref m6, .long sto, .int ni, .int ac, .int bl, .ref m7, .int (nI σ.2.2.1)]) E hK hP 0 rfl zC_M 2 (by decide) kw_592 (Or.inl rfl) rfl d_M_horn_1 ?_
    refine lv_iload_n hx hb d_M_horn_4 rfl (lv_at hl 1 rfl) ?_
    refine va_iald hx hb hK hP 2 1 rfl rfl (vp_in_nI hi (by decide)) d_M_horn_5 ?_
    rw [nI_clamp (i31 hi)]
    rw [hkd]
    refine lv_iconst (v := 5) hx hb d_M_horn_6 (by decide) ?_
    refine lv_icmp_ne (tgt := 24) hx hb d_M_horn_7 (by decide) (fun h9 => absurd (by decide) h9) (fun _ => ?_)
    refine lv_aload_n hx hb d_M_horn_10 rfl (lv_at hl 0 rfl) ?_
    refine lv_bipush (v := 55) hx hb d_M_horn_11 (by decide) ?_
    refine zcV (As := [.int 55]) (rest := []) (ci := 11) E cy_M_begins kw_670 ks_9 kw_668 (c_M_begins l dC dI g1 g2 g3 g4 g5 g6 g7 A aM m1 m2 m3 m4 m5 m6 m7 d n kd ht tk (upd so i σ.1) lt sto ni ac bl σ.2 55) hK hP hD hS 0 rfl zC_M.1 rfl rfl hl.1 rfl (Nat.le_of_ble_eq_true rfl) ⟨Nat.le_of_ble_eq_true rfl, Nat.le_of_ble_eq_true rfl⟩ d_M_horn_13 ⟨Nat.le_refl _, Nat.le_refl _⟩ (fun H locs hP hD hS => ?_)
    have hP : va_P (dC, dI) classes (wm g1 g2 g3 g4 g5 g6 g7 aM m1 m2 m3 m4 m5 m6 m7 d n kd ht tk (upd so i (σ.1, tb 55 σ.2).1) lt sto ni ac bl (σ.1, tb 55 σ.2).2) H := hP
    have hD : va_D A (wm g1 g2 g3 g4 g5 g6 g7 aM m1 m2 m3 m4 m5 m6 m7 d n kd ht tk (upd so i (σ.1, tb 55 σ.2).1) lt sto ni ac bl (σ.1, tb 55 σ.2).2) := hD
    refine lv_aload_n hx hb d_M_horn_16 rfl (lv_at hl 0 rfl) ?_
    refine lv_iload_n hx hb d_M_horn_17 rfl (lv_at hl 1 rfl) ?_
    refine zcV (As := [.int (nI i)]) (rest := []) (ci := 11) E cy_M_tone kw_794 ks_40 kw_792 (c_M_tone l dC dI g1 g2 g3 g4 g5 g6 g7 A aM m1 m2 m3 m4 m5 m6 m7 d n kd ht tk so lt sto ni ac bl i hi (σ.1, tb 55 σ.2) 4 (by decide) hkd (by decide)) hK hP hD hS 0 rfl zC_M.1 rfl rfl hl.1 rfl (Nat.le_of_ble_eq_true rfl) ⟨Nat.le_of_ble_eq_true rfl, Nat.le_of_ble_eq_true rfl⟩ d_M_horn_18 ⟨Nat.le_refl _, Nat.le_refl _⟩ (fun H locs hP hD hS => ?_)
    have hP : va_P (dC, dI) classes (wm g1 g2 g3 g4 g5 g6 g7 aM m1 m2 m3 m4 m5 m6 m7 d n kd ht tk (upd so i ((toneK 4 d (ht i) (tk i) (σ.1, tb 55 σ.2)).2).1) lt sto ni ac bl ((toneK 4 d (ht i) (tk i) (σ.1, tb 55 σ.2)).2).2) H := hP
    have hD : va_D A (wm g1 g2 g3 g4 g5 g6 g7 aM m1 m2 m3 m4 m5 m6 m7 d n kd ht tk (upd so i ((toneK 4 d (ht i) (tk i) (σ.1, tb 55 σ.2)).2).1) lt sto ni ac bl ((toneK 4 d (ht i) (tk i) (σ.1, tb 55 σ.2)).2).2) := hD
    refine lv_iload_n hx hb d_M_horn_21 rfl (lv_at hl 2 rfl) ?_
    refine lv_iadd hx hb d_M_horn_22 ?_
    exact zri E hK hP hD hS d_M_horn_23
  · exact absurd hh (by decide)
  · rw [show hornK 6 d (ht i) (tk i) x σ = ((toneK 6 d (ht i) (tk i) (σ.1, tb 5 σ.2)).1 * x + (reachK 6 d (ht i) 0 (toneK 6 d (ht i) (tk i) (σ.1, tb 5 σ.2)).2).1, (reachK 6 d (ht i) 0 (toneK 6 d (ht i) (tk i) (σ.1, tb 5 σ.2)).2).2) from rfl]
    dsimp only
    refine zM_of "CoastLampsModel" rfl (by decide) (Nat.le_of_ble_eq_true rfl) ?_
    intro p e s m below meth c ls E hP hK hD hS hl
    obtain ⟨hx, hb, hml, ho, hts, hr, hlk⟩ := id E
    have hl : lv_has ls 4 [(0, .ref aM), (1, .int (nI i)), (2, .int x)] := hl
    refine lv_aload_n hx hb d_M_horn_0 rfl (lv_at hl 0 rfl) ?_
    refine zget (ci := 11) (fs := [.ref m1, .int (nI n), .ref m2, .ref m3, .ref m4, .ref m5, .ref m6, .long sto, .int ni, .int ac, .int bl, .ref m7, .int (nI σ.2.2.1)]) E hK hP 0 rfl zC_M 2 (by decide) kw_592 (Or.inl rfl) rfl d_M_horn_1 ?_
    refine lv_iload_n hx hb d_M_horn_4 rfl (lv_at hl 1 rfl) ?_
    refine va_iald hx hb hK hP 2 1 rfl rfl (vp_in_nI hi (by decide)) d_M_horn_5 ?_
    rw [nI_clamp (i31 hi)]
    rw [hkd]
    refine lv_iconst (v := 5) hx hb d_M_horn_6 (by decide) ?_
    refine lv_icmp_ne (tgt := 24) hx hb d_M_horn_7 (by decide) (fun _ => ?_) (fun h9 => absurd h9 (by decide))
    refine lv_aload_n hx hb d_M_horn_24 rfl (lv_at hl 0 rfl) ?_
    refine lv_iconst (v := 5) hx hb d_M_horn_25 (by decide) ?_
    refine zcV (As := [.int 5]) (rest := []) (ci := 11) E cy_M_begins kw_670 ks_9 kw_668 (c_M_begins l dC dI g1 g2 g3 g4 g5 g6 g7 A aM m1 m2 m3 m4 m5 m6 m7 d n kd ht tk (upd so i σ.1) lt sto ni ac bl σ.2 5) hK hP hD hS 0 rfl zC_M.1 rfl rfl hl.1 rfl (Nat.le_of_ble_eq_true rfl) ⟨Nat.le_of_ble_eq_true rfl, Nat.le_of_ble_eq_true rfl⟩ d_M_horn_26 ⟨Nat.le_refl _, Nat.le_refl _⟩ (fun H locs hP hD hS => ?_)
    have hP : va_P (dC, dI) classes (wm g1 g2 g3 g4 g5 g6 g7 aM m1 m2 m3 m4 m5 m6 m7 d n kd ht tk (upd so i (σ.1, tb 5 σ.2).1) lt sto ni ac bl (σ.1, tb 5 σ.2).2) H := hP
    have hD : va_D A (wm g1 g2 g3 g4 g5 g6 g7 aM m1 m2 m3 m4 m5 m6 m7 d n kd ht tk (upd so i (σ.1, tb 5 σ.2).1) lt sto ni ac bl (σ.1, tb 5 σ.2).2) := hD
    refine lv_aload_n hx hb d_M_horn_29 rfl (lv_at hl 0 rfl) ?_
    refine lv_iload_n hx hb d_M_horn_30 rfl (lv_at hl 1 rfl) ?_
    refine zcV (As := [.int (nI i)]) (rest := []) (ci := 11) E cy_M_tone kw_794 ks_40 kw_792 (c_M_tone l dC dI g1 g2 g3 g4 g5 g6 g7 A aM m1 m2 m3 m4 m5 m6 m7 d n kd ht tk so lt sto ni ac bl i hi (σ.1, tb 5 σ.2) 6 (by decide) hkd (by decide)) hK hP hD hS 0 rfl zC_M.1 rfl rfl hl.1 rfl (Nat.le_of_ble_eq_true rfl) ⟨Nat.le_of_ble_eq_true rfl, Nat.le_of_ble_eq_true rfl⟩ d_M_horn_31 ⟨Nat.le_refl _, Nat.le_refl _⟩ (fun H locs hP hD hS => ?_)
    have hP : va_P (dC, dI) classes (wm g1 g2 g3 g4 g5 g6 g7 aM m1 m2 m3 m4 m5 m6 m7 d n kd ht tk (upd so i ((toneK 6 d (ht i) (tk i) (σ.1, tb 5 σ.2)).2).1) lt sto ni ac bl ((toneK 6 d (ht i) (tk i) (σ.1, tb 5 σ.2)).2).2) H := hP
    have hD : va_D A (wm g1 g2 g3 g4 g5 g6 g7 aM m1 m2 m3 m4 m5 m6 m7 d n kd ht tk (upd so i ((toneK 6 d (ht i) (tk i) (σ.1, tb 5 σ.2)).2).1) lt sto ni ac bl ((toneK 6 d (ht i) (tk i) (σ.1, tb 5 σ.2)).2).2) := hD
    refine lv_iload_n hx hb d_M_horn_34 rfl (lv_at hl 2 rfl) ?_
    refine lv_imul hx hb d_M_horn_35 ?_
    refine lv_istore_n (lv' := [(3, .int (((toneK 6 d (ht i) (tk i) (σ.1, tb 5 σ.2)).1) * x)), (0, .ref aM), (1, .int (nI i)), (2, .int x)]) hx hb d_M_horn_36 rfl hl (by decide) rfl (fun ls hl => ?_)
    refine lv_iload_n hx hb d_M_horn_37 rfl (lv_at hl 0 rfl) ?_
    refine lv_aload_n hx hb d_M_horn_38 rfl (lv_at hl 1 rfl) ?_
    refine lv_iload_n hx hb d_M_horn_39 rfl (lv_at hl 2 rfl) ?_
    refine lv_iconst (v := 0) hx hb d_M_horn_40 (by decide) ?_
    refine zcV (As := [.int (nI i), .int 0]) (rest := [.int (((toneK 6 d (ht i) (tk i) (σ.1, tb 5 σ.2)).1) * x)]) (ci := 11) E cy_M_reach kw_694 ks_15 kw_692 (c_M_reach l dC dI g1 g2 g3 g4 g5 g6 g7 A aM m1 m2 m3 m4 m5 m6 m7 d n kd ht tk so lt sto ni ac bl i hi ((toneK 6 d (ht i) (tk i) (σ.1, tb 5 σ.2)).2) 6 (by decide) hkd 0) hK hP hD hS 0 rfl zC_M.1 rfl rfl hl.1 rfl (Nat.le_of_ble_eq_true rfl) ⟨Nat.le_of_ble_eq_true rfl, Nat.le_of_ble_eq_true rfl⟩ d_M_horn_41 ⟨Nat.le_refl _, Nat.le_refl _⟩ (fun H locs hP hD hS => ?_)
    have hP : va_P (dC, dI) classes (wm g1 g2 g3 g4 g5 g6 g7 aM m1 m2 m3 m4 m5 m6 m7 d n kd ht tk (upd so i ((reachK 6 d (ht i) 0 ((toneK 6 d (ht i) (tk i) (σ.1, tb 5 σ.2)).2)).2).1) lt sto ni ac bl ((reachK 6 d (ht i) 0 ((toneK 6 d (ht i) (tk i) (σ.1, tb 5 σ.2)).2)).2).2) H := hP
    have hD : va_D A (wm g1 g2 g3 g4 g5 g6 g7 aM m1 m2 m3 m4 m5 m6 m7 d n kd ht tk (upd so i ((reachK 6 d (ht i) 0 ((toneK 6 d (ht i) (tk i) (σ.1, tb 5 σ.2)).2)).2).1) lt sto ni ac bl ((reachK 6 d (ht i) 0 ((toneK 6 d (ht i) (tk i) (σ.1, tb 5 σ.2)).2)).2).2) := hD
    refine lv_iadd hx hb d_M_horn_44 ?_
    exact zri E hK hP hD hS d_M_horn_45
  · rw [show hornK 7 d (ht i) (tk i) x σ = ((toneK 7 d (ht i) (tk i) (σ.1, tb 5 σ.2)).1 * x + (reachK 7 d (ht i) 0 (toneK 7 d (ht i) (tk i) (σ.1, tb 5 σ.2)).2).1, (reachK 7 d (ht i) 0 (toneK 7 d (ht i) (tk i) (σ.1, tb 5 σ.2)).2).2) from rfl]
    dsimp only
    refine zM_of "CoastLampsModel" rfl (by decide) (Nat.le_of_ble_eq_true rfl) ?_
    intro p e s m below meth c ls E hP hK hD hS hl
    obtain ⟨hx, hb, hml, ho, hts, hr, hlk⟩ := id E
    have hl : lv_has ls 4 [(0, .ref aM), (1, .int (nI i)), (2, .int x)] := hl
    refine lv_aload_n hx hb d_M_horn_0 rfl (lv_at hl 0 rfl) ?_
    refine zget (ci := 11) (fs := [.ref m1, .int (nI n), .ref m2, .ref m3, .ref m4, .ref m5, .ref m6, .long sto, .int ni, .int ac, .int bl, .ref m7, .int (nI σ.2.2.1)]) E hK hP 0 rfl zC_M 2 (by decide) kw_592 (Or.inl rfl) rfl d_M_horn_1 ?_
    refine lv_iload_n hx hb d_M_horn_4 rfl (lv_at hl 1 rfl) ?_
    refine va_iald hx hb hK hP 2 1 rfl rfl (vp_in_nI hi (by decide)) d_M_horn_5 ?_
    rw [nI_clamp (i31 hi)]
    rw [hkd]
    refine lv_iconst (v := 5) hx hb d_M_horn_6 (by decide) ?_
    refine lv_icmp_ne (tgt := 24) hx hb d_M_horn_7 (by decide) (fun _ => ?_) (fun h9 => absurd h9 (by decide))
    refine lv_aload_n hx hb d_M_horn_24 rfl (lv_at hl 0 rfl) ?_
    refine lv_iconst (v := 5) hx hb d_M_horn_25 (by decide) ?_
    refine zcV (As := [.int 5]) (rest := []) (ci := 11) E cy_M_begins kw_670 ks_9 kw_668 (c_M_begins l dC dI g1 g2 g3 g4 g5 g6 g7 A aM m1 m2 m3 m4 m5 m6 m7 d n kd ht tk (upd so i σ.1) lt sto ni ac bl σ.2 5) hK hP hD hS 0 rfl zC_M.1 rfl rfl hl.1 rfl (Nat.le_of_ble_eq_true rfl) ⟨Nat.le_of_ble_eq_true rfl, Nat.le_of_ble_eq_true rfl⟩ d_M_horn_26 ⟨Nat.le_refl _, Nat.le_refl _⟩ (fun H locs hP hD hS => ?_)
    have hP : va_P (dC, dI) classes (wm g1 g2 g3 g4 g5 g6 g7 aM m1 m2 m3 m4 m5 m6 m7 d n kd ht tk (upd so i (σ.1, tb 5 σ.2).1) lt sto ni ac bl (σ.1, tb 5 σ.2).2) H := hP
    have hD : va_D A (wm g1 g2 g3 g4 g5 g6 g7 aM m1 m2 m3 m4 m5 m6 m7 d n kd ht tk (upd so i (σ.1, tb 5 σ.2).1) lt sto ni ac bl (σ.1, tb 5 σ.2).2) := hD
    refine lv_aload_n hx hb d_M_horn_29 rfl (lv_at hl 0 rfl) ?_
    refine lv_iload_n hx hb d_M_horn_30 rfl (lv_at hl 1 rfl) ?_
    refine zcV (As := [.int (nI i)]) (rest := []) (ci := 11) E cy_M_tone kw_794 ks_40 kw_792 (c_M_tone l dC dI g1 g2 g3 g4 g5 g6 g7 A aM m1 m2 m3 m4 m5 m6 m7 d n kd ht tk so lt sto ni ac bl i hi (σ.1, tb 5 σ.2) 7 (by decide) hkd (by decide)) hK hP hD hS 0 rfl zC_M.1 rfl rfl hl.1 rfl (Nat.le_of_ble_eq_true rfl) ⟨Nat.le_of_ble_eq_true rfl, Nat.le_of_ble_eq_true rfl⟩ d_M_horn_31 ⟨Nat.le_refl _, Nat.le_refl _⟩ (fun H locs hP hD hS => ?_)
    have hP : va_P (dC, dI) classes (wm g1 g2 g3 g4 g5 g6 g7 aM m1 m2 m3 m4 m5 m6 m7 d n kd ht tk (upd so i ((toneK 7 d (ht i) (tk i) (σ.1, tb 5 σ.2)).2).1) lt sto ni ac bl ((toneK 7 d (ht i) (tk i) (σ.1, tb 5 σ.2)).2).2) H := hP
    have hD : va_D A (wm g1 g2 g3 g4 g5 g6 g7 aM m1 m2 m3 m4 m5 m6 m7 d n kd ht tk (upd so i ((toneK 7 d (ht i) (tk i) (σ.1, tb 5 σ.2)).2).1) lt sto ni ac bl ((toneK 7 d (ht i) (tk i) (σ.1, tb 5 σ.2)).2).2) := hD
    refine lv_iload_n hx hb d_M_horn_34 rfl (lv_at hl 2 rfl) ?_
    refine lv_imul hx hb d_M_horn_35 ?_
    refine lv_istore_n (lv' := [(3, .int (((toneK 7 d (ht i) (tk i) (σ.1, tb 5 σ.2)).1) * x)), (0, .ref aM), (1, .int (nI i)), (2, .int x)]) hx hb d_M_horn_36 rfl hl (by decide) rfl (fun ls hl => ?_)
    refine lv_iload_n hx hb d_M_horn_37 rfl (lv_at hl 0 rfl) ?_
    refine lv_aload_n hx hb d_M_horn_38 rfl (lv_at hl 1 rfl) ?_
    refine lv_iload_n hx hb d_M_horn_39 rfl (lv_at hl 2 rfl) ?_
    refine lv_iconst (v := 0) hx hb d_M_horn_40 (by decide) ?_
    refine zcV (As := [.int (nI i), .int 0]) (rest := [.int (((toneK 7 d (ht i) (tk i) (σ.1, tb 5 σ.2)).1) * x)]) (ci := 11) E cy_M_reach kw_694 ks_15 kw_692 (c_M_reach l dC dI g1 g2 g3 g4 g5 g6 g7 A aM m1 m2 m3 m4 m5 m6 m7 d n kd ht tk so lt sto ni ac bl i hi ((toneK 7 d (ht i) (tk i) (σ.1, tb 5 σ.2)).2) 7 (by decide) hkd 0) hK hP hD hS 0 rfl zC_M.1 rfl rfl hl.1 rfl (Nat.le_of_ble_eq_true rfl) ⟨Nat.le_of_ble_eq_true rfl, Nat.le_of_ble_eq_true rfl⟩ d_M_horn_41 ⟨Nat.le_refl _, Nat.le_refl _⟩ (fun H locs hP hD hS => ?_)
    have hP : va_P (dC, dI) classes (wm g1 g2 g3 g4 g5 g6 g7 aM m1 m2 m3 m4 m5 m6 m7 d n kd ht tk (upd so i ((reachK 7 d (ht i) 0 ((toneK 7 d (ht i) (tk i) (σ.1, tb 5 σ.2)).2)).2).1) lt sto ni ac bl ((reachK 7 d (ht i) 0 ((toneK 7 d (ht i) (tk i) (σ.1, tb 5 σ.2)).2)).2).2) H := hP
    have hD : va_D A (wm g1 g2 g3 g4 g5 g6 g7 aM m1 m2 m3 m4 m5 m6 m7 d n kd ht tk (upd so i ((reachK 7 d (ht i) 0 ((toneK 7 d (ht i) (tk i) (σ.1, tb 5 σ.2)).2)).2).1) lt sto ni ac bl ((reachK 7 d (ht i) 0 ((toneK 7 d (ht i) (tk i) (σ.1, tb 5 σ.2)).2)).2).2) := hD
    refine lv_iadd hx hb d_M_horn_44 ?_
    exact zri E hK hP hD hS d_M_horn_45
  · rw [show hornK 8 d (ht i) (tk i) x σ = ((toneK 8 d (ht i) (tk i) (σ.1, tb 5 σ.2)).1 * x + (reachK 8 d (ht i) 0 (toneK 8 d (ht i) (tk i) (σ.1, tb 5 σ.2)).2).1, (reachK 8 d (ht i) 0 (toneK 8 d (ht i) (tk i) (σ.1, tb 5 σ.2)).2).2) from rfl]
    dsimp only
    refine zM_of "CoastLampsModel" rfl (by decide) (Nat.le_of_ble_eq_true rfl) ?_
    intro p e s m below meth c ls E hP hK hD hS hl
    obtain ⟨hx, hb, hml, ho, hts, hr, hlk⟩ := id E
    have hl : lv_has ls 4 [(0, .ref aM), (1, .int (nI i)), (2, .int x)] := hl
    refine lv_aload_n hx hb d_M_horn_0 rfl (lv_at hl 0 rfl) ?_
    refine zget (ci := 11) (fs := [.ref m1, .int (nI n), .ref m2, .ref m3, .ref m4, .ref m5, .ref m6, .long sto, .int ni, .int ac, .int bl, .ref m7, .int (nI σ.2.2.1)]) E hK hP 0 rfl zC_M 2 (by decide) kw_592 (Or.inl rfl) rfl d_M_horn_1 ?_
    refine lv_iload_n hx hb d_M_horn_4 rfl (lv_at hl 1 rfl) ?_
    refine va_iald hx hb hK hP 2 1 rfl rfl (vp_in_nI hi (by decide)) d_M_horn_5 ?_
    rw [nI_clamp (i31 hi)]
    rw [hkd]
    refine lv_iconst (v := 5) hx hb d_M_horn_6 (by decide) ?_
    refine lv_icmp_ne (tgt := 24) hx hb d_M_horn_7 (by decide) (fun _ => ?_) (fun h9 => absurd h9 (by decide))
    refine lv_aload_n hx hb d_M_horn_24 rfl (lv_at hl 0 rfl) ?_
    refine lv_iconst (v := 5) hx hb d_M_horn_25 (by decide) ?_
    refine zcV (As := [.int 5]) (rest := []) (ci := 11) E cy_M_begins kw_670 ks_9 kw_668 (c_M_begins l dC dI g1 g2 g3 g4 g5 g6 g7 A aM m1 m2 m3 m4 m5 m6 m7 d n kd ht tk (upd so i σ.1) lt sto ni ac bl σ.2 5) hK hP hD hS 0 rfl zC_M.1 rfl rfl hl.1 rfl (Nat.le_of_ble_eq_true rfl) ⟨Nat.le_of_ble_eq_true rfl, Nat.le_of_ble_eq_true rfl⟩ d_M_horn_26 ⟨Nat.le_refl _, Nat.le_refl _⟩ (fun H locs hP hD hS => ?_)
    have hP : va_P (dC, dI) classes (wm g1 g2 g3 g4 g5 g6 g7 aM m1 m2 m3 m4 m5 m6 m7 d n kd ht tk (upd so i (σ.1, tb 5 σ.2).1) lt sto ni ac bl (σ.1, tb 5 σ.2).2) H := hP
    have hD : va_D A (wm g1 g2 g3 g4 g5 g6 g7 aM m1 m2 m3 m4 m5 m6 m7 d n kd ht tk (upd so i (σ.1, tb 5 σ.2).1) lt sto ni ac bl (σ.1, tb 5 σ.2).2) := hD
    refine lv_aload_n hx hb d_M_horn_29 rfl (lv_at hl 0 rfl) ?_
    refine lv_iload_n hx hb d_M_horn_30 rfl (lv_at hl 1 rfl) ?_
    refine zcV (As := [.int (nI i)]) (rest := []) (ci := 11) E cy_M_tone kw_794 ks_40 kw_792 (c_M_tone l dC dI g1 g2 g3 g4 g5 g6 g7 A aM m1 m2 m3 m4 m5 m6 m7 d n kd ht tk so lt sto ni ac bl i hi (σ.1, tb 5 σ.2) 8 (by decide) hkd (by decide)) hK hP hD hS 0 rfl zC_M.1 rfl rfl hl.1 rfl (Nat.le_of_ble_eq_true rfl) ⟨Nat.le_of_ble_eq_true rfl, Nat.le_of_ble_eq_true rfl⟩ d_M_horn_31 ⟨Nat.le_refl _, Nat.le_refl _⟩ (fun H locs hP hD hS => ?_)
    have hP : va_P (dC, dI) classes (wm g1 g2 g3 g4 g5 g6 g7 aM m1 m2 m3 m4 m5 m6 m7 d n kd ht tk (upd so i ((toneK 8 d (ht i) (tk i) (σ.1, tb 5 σ.2)).2).1) lt sto ni ac bl ((toneK 8 d (ht i) (tk i) (σ.1, tb 5 σ.2)).2).2) H := hP
    have hD : va_D A (wm g1 g2 g3 g4 g5 g6 g7 aM m1 m2 m3 m4 m5 m6 m7 d n kd ht tk (upd so i ((toneK 8 d (ht i) (tk i) (σ.1, tb 5 σ.2)).2).1) lt sto ni ac bl ((toneK 8 d (ht i) (tk i) (σ.1, tb 5 σ.2)).2).2) := hD
    refine lv_iload_n hx hb d_M_horn_34 rfl (lv_at hl 2 rfl) ?_
    refine lv_imul hx hb d_M_horn_35 ?_
    refine lv_istore_n (lv' := [(3, .int (((toneK 8 d (ht i) (tk i) (σ.1, tb 5 σ.2)).1) * x)), (0, .ref aM), (1, .int (nI i)), (2, .int x)]) hx hb d_M_horn_36 rfl hl (by decide) rfl (fun ls hl => ?_)
    refine lv_iload_n hx hb d_M_horn_37 rfl (lv_at hl 0 rfl) ?_
    refine lv_aload_n hx hb d_M_horn_38 rfl (lv_at hl 1 rfl) ?_
    refine lv_iload_n hx hb d_M_horn_39 rfl (lv_at hl 2 rfl) ?_
    refine lv_iconst (v := 0) hx hb d_M_horn_40 (by decide) ?_
    refine zcV (As := [.int (nI i), .int 0]) (rest := [.int (((toneK 8 d (ht i) (tk i) (σ.1, tb 5 σ.2)).1) * x)]) (ci := 11) E cy_M_reach kw_694 ks_15 kw_692 (c_M_reach l dC dI g1 g2 g3 g4 g5 g6 g7 A aM m1 m2 m3 m4 m5 m6 m7 d n kd ht tk so lt sto ni ac bl i hi ((toneK 8 d (ht i) (tk i) (σ.1, tb 5 σ.2)).2) 8 (by decide) hkd 0) hK hP hD hS 0 rfl zC_M.1 rfl rfl hl.1 rfl (Nat.le_of_ble_eq_true rfl) ⟨Nat.le_of_ble_eq_true rfl, Nat.le_of_ble_eq_true rfl⟩ d_M_horn_41 ⟨Nat.le_refl _, Nat.le_refl _⟩ (fun H locs hP hD hS => ?_)
    have hP : va_P (dC, dI) classes (wm g1 g2 g3 g4 g5 g6 g7 aM m1 m2 m3 m4 m5 m6 m7 d n kd ht tk (upd so i ((reachK 8 d (ht i) 0 ((toneK 8 d (ht i) (tk i) (σ.1, tb 5 σ.2)).2)).2).1) lt sto ni ac bl ((reachK 8 d (ht i) 0 ((toneK 8 d (ht i) (tk i) (σ.1, tb 5 σ.2)).2)).2).2) H := hP
    have hD : va_D A (wm g1 g2 g3 g4 g5 g6 g7 aM m1 m2 m3 m4 m5 m6 m7 d n kd ht tk (upd so i ((reachK 8 d (ht i) 0 ((toneK 8 d (ht i) (tk i) (σ.1, tb 5 σ.2)).2)).2).1) lt sto ni ac bl ((reachK 8 d (ht i) 0 ((toneK 8 d (ht i) (tk i) (σ.1, tb 5 σ.2)).2)).2).2) := hD
    refine lv_iadd hx hb d_M_horn_44 ?_
    exact zri E hK hP hD hS d_M_horn_45
set_option maxHeartbeats 1000000 in
set_option maxRecDepth 100000 in
theorem c_M_isHorned (l : Launch) (dC : Nat → ClassId) (dI : Nat → Nat → Nat) (g1 g2 g3 g4 g5 g6 g7 : ClassId) (A : Nat → Prop) (aM m1 m2 m3 m4 m5 m6 m7 : Nat) (d : Nat → Int32) (n : Nat) (kd ht tk so lt : Nat → Int32) (sto : Int64) (ni ac bl : Int32) (t : zT) (i : Nat) (hi : i < 60) (k : Nat) (hk : k < 9) (hkd : kd i = nI (k + 1)) : zM l y_M_isHorned b_M_isHorned 2 (some (FieldType.boolean)) 1 22 [.ref aM, .int (nI i)] (dC, dI) (t7 g1 g2 g3 g4 g5 g6 g7) A (wm g1 g2 g3 g4 g5 g6 g7 aM m1 m2 m3 m4 m5 m6 m7 d n kd ht tk so lt sto ni ac bl t) (wm g1 g2 g3 g4 g5 g6 g7 aM m1 m2 m3 m4 m5 m6 m7 d n kd ht tk so lt sto ni ac bl t) (some (.int (zb (hornedK k)))) := by
  rcases (show k = 0 ∨ k = 1 ∨ k = 2 ∨ k = 3 ∨ k = 4 ∨ k = 5 ∨ k = 6 ∨ k = 7 ∨ k = 8 by omega) with rfl | rfl | rfl | rfl | rfl | rfl | rfl | rfl | rfl
  · refine zM_of "CoastLampsModel" rfl (by decide) (Nat.le_of_ble_eq_true rfl) ?_
    intro p e s m below meth c ls E hP hK hD hS hl
    obtain ⟨hx, hb, hml, ho, hts, hr, hlk⟩ := id E
    have hl : lv_has ls 2 [(0, .ref aM), (1, .int (nI i))] := hl
    refine lv_aload_n hx hb d_M_isHorned_0 rfl (lv_at hl 0 rfl) ?_
    refine zget (ci := 11) (fs := [.ref m1, .int (nI n), .ref m2, .ref m3, .ref m4, .ref m5, .ref m6, .long sto, .int ni, .int ac, .int bl, .ref m7, .int (nI t.2.1)]) E hK hP 0 rfl zC_M 2 (by decide) kw_592 (Or.inl rfl) rfl d_M_isHorned_1 ?_
    refine lv_iload_n hx hb d_M_isHorned_4 rfl (lv_at hl 1 rfl) ?_
    refine va_iald hx hb hK hP 2 1 rfl rfl (vp_in_nI hi (by decide)) d_M_isHorned_5 ?_
    rw [nI_clamp (i31 hi)]
    rw [hkd]
    refine lv_iconst (v := 3) hx hb d_M_isHorned_6 (by decide) ?_
    refine lv_iconst (v := 5) hx hb d_M_isHorned_7 (by decide) ?_
    refine zcS (As := [.int (nI (0 + 1)), .int 3, .int 5]) (rest := []) E cy_M_in kw_636 kw_635 rfl (c_M_in l dC dI (t7 g1 g2 g3 g4 g5 g6 g7) A (wm g1 g2 g3 g4 g5 g6 g7 aM m1 m2 m3 m4 m5 m6 m7 d n kd ht tk so lt sto ni ac bl t) (nI (0 + 1)) 3 5) hK hP hD hS rfl hl.1 rfl (Nat.le_of_ble_eq_true rfl) ⟨Nat.le_of_ble_eq_true rfl, Nat.le_of_ble_eq_true rfl⟩ d_M_isHorned_8 ⟨Nat.le_refl _, Nat.le_refl _⟩ (fun H locs hP hD hS => ?_)
    rw [show zb (decide (3 ≤ nI (0 + 1) ∧ nI (0 + 1) ≤ 5)) = 0 from by rw [decide_eq_false (by decide)]; rfl]
    refine lv_if_ne (tgt := 25) hx hb d_M_isHorned_11 (by decide) (fun h9 => absurd (rfl) h9) (fun _ => ?_)
    refine lv_aload_n hx hb d_M_isHorned_14 rfl (lv_at hl 0 rfl) ?_
    refine zget (ci := 11) (fs := [.ref m1, .int (nI n), .ref m2, .ref m3, .ref m4, .ref m5, .ref m6, .long sto, .int ni, .int ac, .int bl, .ref m7, .int (nI t.2.1)]) E hK hP 0 rfl zC_M 2 (by decide) kw_592 (Or.inl rfl) rfl d_M_isHorned_15 ?_
    refine lv_iload_n hx hb d_M_isHorned_18 rfl (lv_at hl 1 rfl) ?_
    refine va_iald hx hb hK hP 2 1 rfl rfl (vp_in_nI hi (by decide)) d_M_isHorned_19 ?_
    rw [nI_clamp (i31 hi)]
    rw [hkd]
    refine lv_bipush (v := 6) hx hb d_M_isHorned_20 (by decide) ?_
    refine lv_icmp_le (tgt := 29) hx hb d_M_isHorned_22 (by decide) (fun _ => ?_) (fun h9 => absurd (by decide) h9)
    refine lv_iconst (v := 0) hx hb d_M_isHorned_29 (by decide) ?_
    exact zrz E hK hP hD hS rfl d_M_isHorned_30
  · refine zM_of "CoastLampsModel" rfl (by decide) (Nat.le_of_ble_eq_true rfl) ?_
    intro p e s m below meth c ls E hP hK hD hS hl
    obtain ⟨hx, hb, hml, ho, hts, hr, hlk⟩ := id E
    have hl : lv_has ls 2 [(0, .ref aM), (1, .int (nI i))] := hl
    refine lv_aload_n hx hb d_M_isHorned_0 rfl (lv_at hl 0 rfl) ?_
    refine zget (ci := 11) (fs := [.ref m1, .int (nI n), .ref m2, .ref m3, .ref m4, .ref m5, .ref m6, .long sto, .int ni, .int ac, .int bl, .ref m7, .int (nI t.2.1)]) E hK hP 0 rfl zC_M 2 (by decide) kw_592 (Or.inl rfl) rfl d_M_isHorned_1 ?_
    refine lv_iload_n hx hb d_M_isHorned_4 rfl (lv_at hl 1 rfl) ?_
    refine va_iald hx hb hK hP 2 1 rfl rfl (vp_in_nI hi (by decide)) d_M_isHorned_5 ?_
    rw [nI_clamp (i31 hi)]
    rw [hkd]
    refine lv_iconst (v := 3) hx hb d_M_isHorned_6 (by decide) ?_
    refine lv_iconst (v := 5) hx hb d_M_isHorned_7 (by decide) ?_
    refine zcS (As := [.int (nI (1 + 1)), .int 3, .int 5]) (rest := []) E cy_M_in kw_636 kw_635 rfl (c_M_in l dC dI (t7 g1 g2 g3 g4 g5 g6 g7) A (wm g1 g2 g3 g4 g5 g6 g7 aM m1 m2 m3 m4 m5 m6 m7 d n kd ht tk so lt sto ni ac bl t) (nI (1 + 1)) 3 5) hK hP hD hS rfl hl.1 rfl (Nat.le_of_ble_eq_true rfl) ⟨Nat.le_of_ble_eq_true rfl, Nat.le_of_ble_eq_true rfl⟩ d_M_isHorned_8 ⟨Nat.le_refl _, Nat.le_refl _⟩ (fun H locs hP hD hS => ?_)
    rw [show zb (decide (3 ≤ nI (1 + 1) ∧ nI (1 + 1) ≤ 5)) = 0 from by rw [decide_eq_false (by decide)]; rfl]
    refine lv_if_ne (tgt := 25) hx hb d_M_isHorned_11 (by decide) (fun h9 => absurd (rfl) h9) (fun _ => ?_)
    refine lv_aload_n hx hb d_M_isHorned_14 rfl (lv_at hl 0 rfl) ?_
    refine zget (ci := 11) (fs := [.ref m1, .int (nI n), .ref m2, .ref m3, .ref m4, .ref m5, .ref m6, .long sto, .int ni, .int ac, .int bl, .ref m7, .int (nI t.2.1)]) E hK hP 0 rfl zC_M 2 (by decide) kw_592 (Or.inl rfl) rfl d_M_isHorned_15 ?_
    refine lv_iload_n hx hb d_M_isHorned_18 rfl (lv_at hl 1 rfl) ?_
    refine va_iald hx hb hK hP 2 1 rfl rfl (vp_in_nI hi (by decide)) d_M_isHorned_19 ?_
    rw [nI_clamp (i31 hi)]
    rw [hkd]
    refine lv_bipush (v := 6) hx hb d_M_isHorned_20 (by decide) ?_
    refine lv_icmp_le (tgt := 29) hx hb d_M_isHorned_22 (by decide) (fun _ => ?_) (fun h9 => absurd (by decide) h9)
    refine lv_iconst (v := 0) hx hb d_M_isHorned_29 (by decide) ?_
    exact zrz E hK hP hD hS rfl d_M_isHorned_30
  · refine zM_of "CoastLampsModel" rfl (by decide) (Nat.le_of_ble_eq_true rfl) ?_
    intro p e s m below meth c ls E hP hK hD hS hl
    obtain ⟨hx, hb, hml, ho, hts, hr, hlk⟩ := id E
    have hl : lv_has ls 2 [(0, .ref aM), (1, .int (nI i))] := hl
    refine lv_aload_n hx hb d_M_isHorned_0 rfl (lv_at hl 0 rfl) ?_
    refine zget (ci := 11) (fs := [.ref m1, .int (nI n), .ref m2, .ref m3, .ref m4, .ref m5, .ref m6, .long sto, .int ni, .int ac, .int bl, .ref m7, .int (nI t.2.1)]) E hK hP 0 rfl zC_M 2 (by decide) kw_592 (Or.inl rfl) rfl d_M_isHorned_1 ?_
    refine lv_iload_n hx hb d_M_isHorned_4 rfl (lv_at hl 1 rfl) ?_
    refine va_iald hx hb hK hP 2 1 rfl rfl (vp_in_nI hi (by decide)) d_M_isHorned_5 ?_
    rw [nI_clamp (i31 hi)]
    rw [hkd]
    refine lv_iconst (v := 3) hx hb d_M_isHorned_6 (by decide) ?_
    refine lv_iconst (v := 5) hx hb d_M_isHorned_7 (by decide) ?_
    refine zcS (As := [.int (nI (2 + 1)), .int 3, .int 5]) (rest := []) E cy_M_in kw_636 kw_635 rfl (c_M_in l dC dI (t7 g1 g2 g3 g4 g5 g6 g7) A (wm g1 g2 g3 g4 g5 g6 g7 aM m1 m2 m3 m4 m5 m6 m7 d n kd ht tk so lt sto ni ac bl t) (nI (2 + 1)) 3 5) hK hP hD hS rfl hl.1 rfl (Nat.le_of_ble_eq_true rfl) ⟨Nat.le_of_ble_eq_true rfl, Nat.le_of_ble_eq_true rfl⟩ d_M_isHorned_8 ⟨Nat.le_refl _, Nat.le_refl _⟩ (fun H locs hP hD hS => ?_)
    rw [show zb (decide (3 ≤ nI (2 + 1) ∧ nI (2 + 1) ≤ 5)) = 1 from by rw [decide_eq_true (by decide)]; rfl]
    refine lv_if_ne (tgt := 25) hx hb d_M_isHorned_11 (by decide) (fun _ => ?_) (fun h9 => absurd h9 (by decide))
    refine lv_iconst (v := 1) hx hb d_M_isHorned_25 (by decide) ?_
    refine lv_goto (tgt := 30) hx hb d_M_isHorned_26 (by decide) ?_
    exact zrz E hK hP hD hS rfl d_M_isHorned_30
  · refine zM_of "CoastLampsModel" rfl (by decide) (Nat.le_of_ble_eq_true rfl) ?_
    intro p e s m below meth c ls E hP hK hD hS hl
    obtain ⟨hx, hb, hml, ho, hts, hr, hlk⟩ := id E
    have hl : lv_has ls 2 [(0, .ref aM), (1, .int (nI i))] := hl
    refine lv_aload_n hx hb d_M_isHorned_0 rfl (lv_at hl 0 rfl) ?_
    refine zget (ci := 11) (fs := [.ref m1, .int (nI n), .ref m2, .ref m3, .ref m4, .ref m5, .ref m6, .long sto, .int ni, .int ac, .int bl, .ref m7, .int (nI t.2.1)]) E hK hP 0 rfl zC_M 2 (by decide) kw_592 (Or.inl rfl) rfl d_M_isHorned_1 ?_
    refine lv_iload_n hx hb d_M_isHorned_4 rfl (lv_at hl 1 rfl) ?_
    refine va_iald hx hb hK hP 2 1 rfl rfl (vp_in_nI hi (by decide)) d_M_isHorned_5 ?_
    rw [nI_clamp (i31 hi)]
    rw [hkd]
    refine lv_iconst (v := 3) hx hb d_M_isHorned_6 (by decide) ?_
    refine lv_iconst (v := 5) hx hb d_M_isHorned_7 (by decide) ?_
    refine zcS (As := [.int (nI (3 + 1)), .int 3, .int 5]) (rest := []) E cy_M_in kw_636 kw_635 rfl (c_M_in l dC dI (t7 g1 g2 g3 g4 g5 g6 g7) A (wm g1 g2 g3 g4 g5 g6 g7 aM m1 m2 m3 m4 m5 m6 m7 d n kd ht tk so lt sto ni ac bl t) (nI (3 + 1)) 3 5) hK hP hD hS rfl hl.1 rfl (Nat.le_of_ble_eq_true rfl) ⟨Nat.le_of_ble_eq_true rfl, Nat.le_of_ble_eq_true rfl⟩ d_M_isHorned_8 ⟨Nat.le_refl _, Nat.le_refl _⟩ (fun H locs hP hD hS => ?_)
    rw [show zb (decide (3 ≤ nI (3 + 1) ∧ nI (3 + 1) ≤ 5)) = 1 from by rw [decide_eq_true (by decide)]; rfl]
    refine lv_if_ne (tgt := 25) hx hb d_M_isHorned_11 (by decide) (fun _ => ?_) (fun h9 => absurd h9 (by decide))
    refine lv_iconst (v := 1) hx hb d_M_isHorned_25 (by decide) ?_
    refine lv_goto (tgt := 30) hx hb d_M_isHorned_26 (by decide) ?_
    exact zrz E hK hP hD hS rfl d_M_isHorned_30
  · refine zM_of "CoastLampsModel" rfl (by decide) (Nat.le_of_ble_eq_true rfl) ?_
    intro p e s m below meth c ls E hP hK hD hS hl
    obtain ⟨hx, hb, hml, ho, hts, hr, hlk⟩ := id E
    have hl : lv_has ls 2 [(0, .ref aM), (1, .int (nI i))] := hl
    refine lv_aload_n hx hb d_M_isHorned_0 rfl (lv_at hl 0 rfl) ?_
    refine zget (ci := 11) (fs := [.ref m1, .int (nI n), .ref m2, .ref m3, .ref m4, .ref m5, .ref m6, .long sto, .int ni, .int ac, .int bl, .ref m7, .int (nI t.2.1)]) E hK hP 0 rfl zC_M 2 (by decide) kw_592 (Or.inl rfl) rfl d_M_isHorned_1 ?_
    refine lv_iload_n hx hb d_M_isHorned_4 rfl (lv_at hl 1 rfl) ?_
    refine va_iald hx hb hK hP 2 1 rfl rfl (vp_in_nI hi (by decide)) d_M_isHorned_5 ?_
    rw [nI_clamp (i31 hi)]
    rw [hkd]
    refine lv_iconst (v := 3) hx hb d_M_isHorned_6 (by decide) ?_
    refine lv_iconst (v := 5) hx hb d_M_isHorned_7 (by decide) ?_
    refine zcS (As := [.int (nI (4 + 1)), .int 3, .int 5]) (rest := []) E cy_M_in kw_636 kw_635 rfl (c_M_in l dC dI (t7 g1 g2 g3 g4 g5 g6 g7) A (wm g1 g2 g3 g4 g5 g6 g7 aM m1 m2 m3 m4 m5 m6 m7 d n kd ht tk so lt sto ni ac bl t) (nI (4 + 1)) 3 5) hK hP hD hS rfl hl.1 rfl (Nat.le_of_ble_eq_true rfl) ⟨Nat.le_of_ble_eq_true rfl, Nat.le_of_ble_eq_true rfl⟩ d_M_isHorned_8 ⟨Nat.le_refl _, Nat.le_refl _⟩ (fun H locs hP hD hS => ?_)
    rw [show zb (decide (3 ≤ nI (4 + 1) ∧ nI (4 + 1) ≤ 5)) = 1 from by rw [decide_eq_true (by decide)]; rfl]
    refine lv_if_ne (tgt := 25) hx hb d_M_isHorned_11 (by decide) (fun _ => ?_) (fun h9 => absurd h9 (by decide))
    refine lv_iconst (v := 1) hx hb d_M_isHorned_25 (by decide) ?_
    refine lv_goto (tgt := 30) hx hb d_M_isHorned_26 (by decide) ?_
    exact zrz E hK hP hD hS rfl d_M_isHorned_30
  · refine zM_of "CoastLampsModel" rfl (by decide) (Nat.le_of_ble_eq_true rfl) ?_
    intro p e s m below meth c ls E hP hK hD hS hl
    obtain ⟨hx, hb, hml, ho, hts, hr, hlk⟩ := id E
    have hl : lv_has ls 2 [(0, .ref aM), (1, .int (nI i))] := hl
    refine lv_aload_n hx hb d_M_isHorned_0 rfl (lv_at hl 0 rfl) ?_
    refine zget (ci := 11) (fs := [.ref m1, .int (nI n), .ref m2, .ref m3, .ref m4, .ref m5, .ref m6, .long sto, .int ni, .int ac, .int bl, .ref m7, .int (nI t.2.1)]) E hK hP 0 rfl zC_M 2 (by decide) kw_592 (Or.inl rfl) rfl d_M_isHorned_1 ?_
    refine lv_iload_n hx hb d_M_isHorned_4 rfl (lv_at hl 1 rfl) ?_
    refine va_iald hx hb hK hP 2 1 rfl rfl (vp_in_nI hi (by decide)) d_M_isHorned_5 ?_
    rw [nI_clamp (i31 hi)]
    rw [hkd]
    refine lv_iconst (v := 3) hx hb d_M_isHorned_6 (by decide) ?_
    refine lv_iconst (v := 5) hx hb d_M_isHorned_7 (by decide) ?_
    refine zcS (As := [.int (nI (5 + 1)), .int 3, .int 5]) (rest := []) E cy_M_in kw_636 kw_635 rfl (c_M_in l dC dI (t7 g1 g2 g3 g4 g5 g6 g7) A (wm g1 g2 g3 g4 g5 g6 g7 aM m1 m2 m3 m4 m5 m6 m7 d n kd ht tk so lt sto ni ac bl t) (nI (5 + 1)) 3 5) hK hP hD hS rfl hl.1 rfl (Nat.le_of_ble_eq_true rfl) ⟨Nat.le_of_ble_eq_true rfl, Nat.le_of_ble_eq_true rfl⟩ d_M_isHorned_8 ⟨Nat.le_refl _, Nat.le_refl _⟩ (fun H locs hP hD hS => ?_)
    rw [show zb (decide (3 ≤ nI (5 + 1) ∧ nI (5 + 1) ≤ 5)) = 0 from by rw [decide_eq_false (by decide)]; rfl]
    refine lv_if_ne (tgt := 25) hx hb d_M_isHorned_11 (by decide) (fun h9 => absurd (rfl) h9) (fun _ => ?_)
    refine lv_aload_n hx hb d_M_isHorned_14 rfl (lv_at hl 0 rfl) ?_
    refine zget (ci := 11) (fs := [.ref m1, .int (nI n), .ref m2, .ref m3, .ref m4, .ref m5, .ref m6, .long sto, .int ni, .int ac, .int bl, .ref m7, .int (nI t.2.1)]) E hK hP 0 rfl zC_M 2 (by decide) kw_592 (Or.inl rfl) rfl d_M_isHorned_15 ?_
    refine lv_iload_n hx hb d_M_isHorned_18 rfl (lv_at hl 1 rfl) ?_
    refine va_iald hx hb hK hP 2 1 rfl rfl (vp_in_nI hi (by decide)) d_M_isHorned_19 ?_
    rw [nI_clamp (i31 hi)]
    rw [hkd]
    refine lv_bipush (v := 6) hx hb d_M_isHorned_20 (by decide) ?_
    refine lv_icmp_le (tgt := 29) hx hb d_M_isHorned_22 (by decide) (fun _ => ?_) (fun h9 => absurd (by decide) h9)
    refine lv_iconst (v := 0) hx hb d_M_isHorned_29 (by decide) ?_
    exact zrz E hK hP hD hS rfl d_M_isHorned_30
  · refine zM_of "CoastLampsModel" rfl (by decide) (Nat.le_of_ble_eq_true rfl) ?_
    intro p e s m below meth c ls E hP hK hD hS hl
    obtain ⟨hx, hb, hml, ho, hts, hr, hlk⟩ := id E
    have hl : lv_has ls 2 [(0, .ref aM), (1, .int (nI i))] := hl
    refine lv_aload_n hx hb d_M_isHorned_0 rfl (lv_at hl 0 rfl) ?_
    refine zget (ci := 11) (fs := [.ref m1, .int (nI n), .ref m2, .ref m3, .ref m4, .ref m5, .ref m6, .long sto, .int ni, .int ac, .int bl, .ref m7, .int (nI t.2.1)]) E hK hP 0 rfl zC_M 2 (by decide) kw_592 (Or.inl rfl) rfl d_M_isHorned_1 ?_
    refine lv_iload_n hx hb d_M_isHorned_4 rfl (lv_at hl 1 rfl) ?_
    refine va_iald hx hb hK hP 2 1 rfl rfl (vp_in_nI hi (by decide)) d_M_isHorned_5 ?_
    rw [nI_clamp (i31 hi)]
    rw [hkd]
    refine lv_iconst (v := 3) hx hb d_M_isHorned_6 (by decide) ?_
    refine lv_iconst (v := 5) hx hb d_M_isHorned_7 (by decide) ?_
    refine zcS (As := [.int (nI (6 + 1)), .int 3, .int 5]) (rest := []) E cy_M_in kw_636 kw_635 rfl (c_M_in l dC dI (t7 g1 g2 g3 g4 g5 g6 g7) A (wm g1 g2 g3 g4 g5 g6 g7 aM m1 m2 m3 m4 m5 m6 m7 d n kd ht tk so lt sto ni ac bl t) (nI (6 + 1)) 3 5) hK hP hD hS rfl hl.1 rfl (Nat.le_of_ble_eq_true rfl) ⟨Nat.le_of_ble_eq_true rfl, Nat.le_of_ble_eq_true rfl⟩ d_M_isHorned_8 ⟨Nat.le_refl _, Nat.le_refl _⟩ (fun H locs hP hD hS => ?_)
    rw [show zb (decide (3 ≤ nI (6 + 1) ∧ nI (6 + 1) ≤ 5)) = 0 from by rw [decide_eq_false (by decide)]; rfl]
    refine lv_if_ne (tgt := 25) hx hb d_M_isHorned_11 (by decide) (fun h9 => absurd (rfl) h9) (fun _ => ?_)
    refine lv_aload_n hx hb d_M_isHorned_14 rfl (lv_at hl 0 rfl) ?_
    refine zget (ci := 11) (fs := [.ref m1, .int (nI n), .ref m2, .ref m3, .ref m4, .ref m5, .ref m6, .long sto, .int ni, .int ac, .int bl, .ref m7, .int (nI t.2.1)]) E hK hP 0 rfl zC_M 2 (by decide) kw_592 (Or.inl rfl) rfl d_M_isHorned_15 ?_
    refine lv_iload_n hx hb d_M_isHorned_18 rfl (lv_at hl 1 rfl) ?_
    refine va_iald hx hb hK hP 2 1 rfl rfl (vp_in_nI hi (by decide)) d_M_isHorned_19 ?_
    rw [nI_clamp (i31 hi)]
    rw [hkd]
    refine lv_bipush (v := 6) hx hb d_M_isHorned_20 (by decide) ?_
    refine lv_icmp_le (tgt := 29) hx hb d_M_isHorned_22 (by decide) (fun h9 => absurd h9 (by decide)) (fun _ => ?_)
    refine lv_iconst (v := 1) hx hb d_M_isHorned_25 (by decide) ?_
    refine lv_goto (tgt := 30) hx hb d_M_isHorned_26 (by decide) ?_
    exact zrz E hK hP hD hS rfl d_M_isHorned_30
  · refine zM_of "CoastLampsModel" rfl (by decide) (Nat.le_of_ble_eq_true rfl) ?_
    intro p e s m below meth c ls E hP hK hD hS hl
    obtain ⟨hx, hb, hml, ho, hts, hr, hlk⟩ := id E
    have hl : lv_has ls 2 [(0, .ref aM), (1, .int (nI i))] := hl
    refine lv_aload_n hx hb d_M_isHorned_0 rfl (lv_at hl 0 rfl) ?_
    refine zget (ci := 11) (fs := [.ref m1, .int (nI n), .ref m2, .ref m3, .ref m4, .ref m5, .ref m6, .long sto, .int ni, .int ac, .int bl, .ref m7, .int (nI t.2.1)]) E hK hP 0 rfl zC_M 2 (by decide) kw_592 (Or.inl rfl) rfl d_M_isHorned_1 ?_
    refine lv_iload_n hx hb d_M_isHorned_4 rfl (lv_at hl 1 rfl) ?_
    refine va_iald hx hb hK hP 2 1 rfl rfl (vp_in_nI hi (by decide)) d_M_isHorned_5 ?_
    rw [nI_clamp (i31 hi)]
    rw [hkd]
    refine lv_iconst (v := 3) hx hb d_M_isHorned_6 (by decide) ?_
    refine lv_iconst (v := 5) hx hb d_M_isHorned_7 (by decide) ?_
    refine zcS (As := [.int (nI (7 + 1)), .int 3, .int 5]) (rest := []) E cy_M_in kw_636 kw_635 rfl (c_M_in l dC dI (t7 g1 g2 g3 g4 g5 g6 g7) A (wm g1 g2 g3 g4 g5 g6 g7 aM m1 m2 m3 m4 m5 m6 m7 d n kd ht tk so lt sto ni ac bl t) (nI (7 + 1)) 3 5) hK hP hD hS rfl hl.1 rfl (Nat.le_of_ble_eq_true rfl) ⟨Nat.le_of_ble_eq_true rfl, Nat.le_of_ble_eq_true rfl⟩ d_M_isHorned_8 ⟨Nat.le_refl _, Nat.le_refl _⟩ (fun H locs hP hD hS => ?_)
    rw [show zb (decide (3 ≤ nI (7 + 1) ∧ nI (7 + 1) ≤ 5)) = 0 from by rw [decide_eq_false (by decide)]; rfl]
    refine lv_if_ne (tgt := 25) hx hb d_M_isHorned_11 (by decide) (fun h9 => absurd (rfl) h9) (fun _ => ?_)
    refine lv_aload_n hx hb d_M_isHorned_14 rfl (lv_at hl 0 rfl) ?_
    refine zget (ci := 11) (fs := [.ref m1, .int (nI n), .ref m2, .ref m3, .ref m4, .ref m5, .ref m6, .long sto, .int ni, .int ac, .int bl, .ref m7, .int (nI t.2.1)]) E hK hP 0 rfl zC_M 2 (by decide) kw_592 (Or.inl rfl) rfl d_M_isHorned_15 ?_
    refine lv_iload_n hx hb d_M_isHorned_18 rfl (lv_at hl 1 rfl) ?_
    refine va_iald hx hb hK hP 2 1 rfl rfl (vp_in_nI hi (by decide)) d_M_isHorned_19 ?_
    rw [nI_clamp (i31 hi)]
    rw [hkd]
    refine lv_bipush (v := 6) hx hb d_M_isHorned_20 (by decide) ?_
    refine lv_icmp_le (tgt := 29) hx hb d_M_isHorned_22 (by decide) (fun h9 => absurd h9 (by decide)) (fun _ => ?_)
    refine lv_iconst (v := 1) hx hb d_M_isHorned_25 (by decide) ?_
    refine lv_goto (tgt := 30) hx hb d_M_isHorned_26 (by decide) ?_
    exact zrz E hK hP hD hS rfl d_M_isHorned_30
  · refine zM_of "CoastLampsModel" rfl (by decide) (Nat.le_of_ble_eq_true rfl) ?_
    intro p e s m below meth c ls E hP hK hD hS hl
    obtain ⟨hx, hb, hml, ho, hts, hr, hlk⟩ := id E
    have hl : lv_has ls 2 [(0, .ref aM), (1, .int (nI i))] := hl
    refine lv_aload_n hx hb d_M_isHorned_0 rfl (lv_at hl 0 rfl) ?_
    refine zget (ci := 11) (fs := [.ref m1, .int (nI n), .ref m2, .ref m3, .ref m4, .ref m5, .ref m6, .long sto, .int ni, .int ac, .int bl, .ref m7, .int (nI t.2.1)]) E hK hP 0 rfl zC_M 2 (by decide) kw_592 (Or.inl rfl) rfl d_M_isHorned_1 ?_
    refine lv_iload_n hx hb d_M_isHorned_4 rfl (lv_at hl 1 rfl) ?_
    refine va_iald hx hb hK hP 2 1 rfl rfl (vp_in_nI hi (by decide)) d_M_isHorned_5 ?_
    rw [nI_clamp (i31 hi)]
    rw [hkd]
    refine lv_iconst (v := 3) hx hb d_M_isHorned_6 (by decide) ?_
    refine lv_iconst (v := 5) hx hb d_M_isHorned_7 (by decide) ?_
    refine zcS (As := [.int (nI (8 + 1)), .int 3, .int 5]) (rest := []) E cy_M_in kw_636 kw_635 rfl (c_M_in l dC dI (t7 g1 g2 g3 g4 g5 g6 g7) A (wm g1 g2 g3 g4 g5 g6 g7 aM m1 m2 m3 m4 m5 m6 m7 d n kd ht tk so lt sto ni ac bl t) (nI (8 + 1)) 3 5) hK hP hD hS rfl hl.1 rfl (Nat.le_of_ble_eq_true rfl) ⟨Nat.le_of_ble_eq_true rfl, Nat.le_of_ble_eq_true rfl⟩ d_M_isHorned_8 ⟨Nat.le_refl _, Nat.le_refl _⟩ (fun H locs hP hD hS => ?_)
    rw [show zb (decide (3 ≤ nI (8 + 1) ∧ nI (8 + 1) ≤ 5)) = 0 from by rw [decide_eq_false (by decide)]; rfl]
    refine lv_if_ne (tgt := 25) hx hb d_M_isHorned_11 (by decide) (fun h9 => absurd (rfl) h9) (fun _ => ?_)
    refine lv_aload_n hx hb d_M_isHorned_14 rfl (lv_at hl 0 rfl) ?_
    refine zget (ci := 11) (fs := [.ref m1, .int (nI n), .ref m2, .ref m3, .ref m4, .ref m5, .ref m6, .long sto, .int ni, .int ac, .int bl, .ref m7, .int (nI t.2.1)]) E hK hP 0 rfl zC_M 2 (by decide) kw_592 (Or.inl rfl) rfl d_M_isHorned_15 ?_
    refine lv_iload_n hx hb d_M_isHorned_18 rfl (lv_at hl 1 rfl) ?_
    refine va_iald hx hb hK hP 2 1 rfl rfl (vp_in_nI hi (by decide)) d_M_isHorned_19 ?_
    rw [nI_clamp (i31 hi)]
    rw [hkd]
    refine lv_bipush (v := 6) hx hb d_M_isHorned_20 (by decide) ?_
    refine lv_icmp_le (tgt := 29) hx hb d_M_isHorned_22 (by decide) (fun h9 => absurd h9 (by decide)) (fun _ => ?_)
    refine lv_iconst (v := 1) hx hb d_M_isHorned_25 (by decide) ?_
    refine lv_goto (tgt := 30) hx hb d_M_isHorned_26 (by decide) ?_
    exact zrz E hK hP hD hS rfl d_M_isHorned_30
end
