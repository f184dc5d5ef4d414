-- ===== PART A: goes FIRST, ahead of the names: the tables' words, and 'selects' of the private methods out of them =====
/-- a private method of a class that the tables say can be made, by its rows of tables_1 -/
def lw_okq (q : MethodName × Nat) : Prop := (q.1.cls ≠ "java/lang/invoke/MethodHandle" ∧ q.1.cls ≠ "java/lang/invoke/VarHandle") ∧ Cond.instantiable q.1.cls q.2 ∈ tables_1 ∧ Cond.privateMethod q.1 ∈ tables_1 ∧ Cond.instanceMethod q.1 ∈ tables_1
theorem lw_p0 : lw_okq (⟨"GoldTouch$Reader", "nextToken", "()V"⟩, 6) := ⟨⟨by decide +kernel, by decide +kernel⟩, List.mem_of_getElem? (i := 82) (by decide +kernel), List.mem_of_getElem? (i := 242) (by decide +kernel), List.mem_of_getElem? (i := 243) (by decide +kernel)⟩
theorem lw_p1 : lw_okq (⟨"GoldTouch$Reader", "letterAt", "(I)I"⟩, 6) := ⟨⟨by decide +kernel, by decide +kernel⟩, List.mem_of_getElem? (i := 82) (by decide +kernel), List.mem_of_getElem? (i := 246) (by decide +kernel), List.mem_of_getElem? (i := 247) (by decide +kernel)⟩
theorem lw_p2 : lw_okq (⟨"GoldTouch$Reader", "readClause", "(LGoldTouch$Court;)Z"⟩, 6) := ⟨⟨by decide +kernel, by decide +kernel⟩, List.mem_of_getElem? (i := 82) (by decide +kernel), List.mem_of_getElem? (i := 256) (by decide +kernel), List.mem_of_getElem? (i := 257) (by decide +kernel)⟩
theorem lw_p3 : lw_okq (⟨"GoldTouch$Reader", "readWord", "()I"⟩, 6) := ⟨⟨by decide +kernel, by decide +kernel⟩, List.mem_of_getElem? (i := 82) (by decide +kernel), List.mem_of_getElem? (i := 260) (by decide +kernel), List.mem_of_getElem? (i := 261) (by decide +kernel)⟩
theorem lw_p4 : lw_okq (⟨"GoldTouch$Reader", "isToken", "(Ljava/lang/String;)Z"⟩, 6) := ⟨⟨by decide +kernel, by decide +kernel⟩, List.mem_of_getElem? (i := 82) (by decide +kernel), List.mem_of_getElem? (i := 278) (by decide +kernel), List.mem_of_getElem? (i := 279) (by decide +kernel)⟩
theorem lw_p5 : lw_okq (⟨"GoldTouch$Reader", "readNumber", "()I"⟩, 6) := ⟨⟨by decide +kernel, by decide +kernel⟩, List.mem_of_getElem? (i := 82) (by decide +kernel), List.mem_of_getElem? (i := 332) (by decide +kernel), List.mem_of_getElem? (i := 333) (by decide +kernel)⟩
theorem lw_p6 : lw_okq (⟨"GoldTouch$Reader", "doClause", "(LGoldTouch$Court;I)V"⟩, 6) := ⟨⟨by decide +kernel, by decide +kernel⟩, List.mem_of_getElem? (i := 82) (by decide +kernel), List.mem_of_getElem? (i := 342) (by decide +kernel), List.mem_of_getElem? (i := 343) (by decide +kernel)⟩
theorem lw_p7 : lw_okq (⟨"GoldTouch", "startDay", "()V"⟩, 17) := ⟨⟨by decide +kernel, by decide +kernel⟩, List.mem_of_getElem? (i := 14) (by decide +kernel), List.mem_of_getElem? (i := 362) (by decide +kernel), List.mem_of_getElem? (i := 363) (by decide +kernel)⟩
theorem lw_p8 : lw_okq (⟨"GoldTouch", "isThing", "(I)Z"⟩, 17) := ⟨⟨by decide +kernel, by decide +kernel⟩, List.mem_of_getElem? (i := 14) (by decide +kernel), List.mem_of_getElem? (i := 374) (by decide +kernel), List.mem_of_getElem? (i := 375) (by decide +kernel)⟩
theorem lw_p9 : lw_okq (⟨"GoldTouch", "doTouching", "(I)I"⟩, 17) := ⟨⟨by decide +kernel, by decide +kernel⟩, List.mem_of_getElem? (i := 14) (by decide +kernel), List.mem_of_getElem? (i := 433) (by decide +kernel), List.mem_of_getElem? (i := 434) (by decide +kernel)⟩
theorem lw_p10 : lw_okq (⟨"GoldTouch", "remember", "()V"⟩, 17) := ⟨⟨by decide +kernel, by decide +kernel⟩, List.mem_of_getElem? (i := 14) (by decide +kernel), List.mem_of_getElem? (i := 437) (by decide +kernel), List.mem_of_getElem? (i := 438) (by decide +kernel)⟩
theorem lw_p11 : lw_okq (⟨"GoldTouch", "servesAsTool", "(II)Z"⟩, 17) := ⟨⟨by decide +kernel, by decide +kernel⟩, List.mem_of_getElem? (i := 14) (by decide +kernel), List.mem_of_getElem? (i := 459) (by decide +kernel), List.mem_of_getElem? (i := 460) (by decide +kernel)⟩
theorem lw_p12 : lw_okq (⟨"GoldTouch", "doEating", "(II)I"⟩, 17) := ⟨⟨by decide +kernel, by decide +kernel⟩, List.mem_of_getElem? (i := 14) (by decide +kernel), List.mem_of_getElem? (i := 467) (by decide +kernel), List.mem_of_getElem? (i := 468) (by decide +kernel)⟩
theorem lw_p13 : lw_okq (⟨"GoldTouch", "townThings", "()I"⟩, 17) := ⟨⟨by decide +kernel, by decide +kernel⟩, List.mem_of_getElem? (i := 14) (by decide +kernel), List.mem_of_getElem? (i := 495) (by decide +kernel), List.mem_of_getElem? (i := 496) (by decide +kernel)⟩
theorem lw_p14 : lw_okq (⟨"GoldTouch$Planner", "search", "(LGoldTouch$Court;IIIIII)V"⟩, 5) := ⟨⟨by decide +kernel, by decide +kernel⟩, List.mem_of_getElem? (i := 145) (by decide +kernel), List.mem_of_getElem? (i := 550) (by decide +kernel), List.mem_of_getElem? (i := 551) (by decide +kernel)⟩
theorem lw_p15 : lw_okq (⟨"GoldTouch$Planner", "take", "(III)V"⟩, 5) := ⟨⟨by decide +kernel, by decide +kernel⟩, List.mem_of_getElem? (i := 145) (by decide +kernel), List.mem_of_getElem? (i := 558) (by decide +kernel), List.mem_of_getElem? (i := 559) (by decide +kernel)⟩
def lw_privs_1 : List (MethodName × Nat) := [(⟨"GoldTouch$Reader", "nextToken", "()V"⟩, 6), (⟨"GoldTouch$Reader", "letterAt", "(I)I"⟩, 6), (⟨"GoldTouch$Reader", "readClause", "(LGoldTouch$Court;)Z"⟩, 6), (⟨"GoldTouch$Reader", "readWord", "()I"⟩, 6), (⟨"GoldTouch$Reader", "isToken", "(Ljava/lang/String;)Z"⟩, 6), (⟨"GoldTouch$Reader", "readNumber", "()I"⟩, 6), (⟨"GoldTouch$Reader", "doClause", "(LGoldTouch$Court;I)V"⟩, 6), (⟨"GoldTouch", "startDay", "()V"⟩, 17), (⟨"GoldTouch", "isThing", "(I)Z"⟩, 17), (⟨"GoldTouch", "doTouching", "(I)I"⟩, 17), (⟨"GoldTouch", "remember", "()V"⟩, 17), (⟨"GoldTouch", "servesAsTool", "(II)Z"⟩, 17), (⟨"GoldTouch", "doEating", "(II)I"⟩, 17), (⟨"GoldTouch", "townThings", "()I"⟩, 17), (⟨"GoldTouch$Planner", "search", "(LGoldTouch$Court;IIIIII)V"⟩, 5), (⟨"GoldTouch$Planner", "take", "(III)V"⟩, 5)]
theorem lw_r1 : ∀ q ∈ lw_privs_1, lw_okq q := List.forall_mem_cons.mpr ⟨lw_p0, List.forall_mem_cons.mpr ⟨lw_p1, List.forall_mem_cons.mpr ⟨lw_p2, List.forall_mem_cons.mpr ⟨lw_p3, List.forall_mem_cons.mpr ⟨lw_p4, List.forall_mem_cons.mpr ⟨lw_p5, List.forall_mem_cons.mpr ⟨lw_p6, List.forall_mem_cons.mpr ⟨lw_p7, List.forall_mem_cons.mpr ⟨lw_p8, List.forall_mem_cons.mpr ⟨lw_p9, List.forall_mem_cons.mpr ⟨lw_p10, List.forall_mem_cons.mpr ⟨lw_p11, List.forall_mem_cons.mpr ⟨lw_p12, List.forall_mem_cons.mpr ⟨lw_p13, List.forall_mem_cons.mpr ⟨lw_p14, List.forall_mem_cons.mpr ⟨lw_p15, fun _ h => absurd h List.not_mem_nil⟩⟩⟩⟩⟩⟩⟩⟩⟩⟩⟩⟩⟩⟩⟩⟩
theorem lw_p16 : lw_okq (⟨"GoldTouch", "isRest", "(II)Z"⟩, 17) := ⟨⟨by decide +kernel, by decide +kernel⟩, List.mem_of_getElem? (i := 14) (by decide +kernel), List.mem_of_getElem? (i := 578) (by decide +kernel), List.mem_of_getElem? (i := 579) (by decide +kernel)⟩
theorem lw_p17 : lw_okq (⟨"GoldTouch", "thiefGain", "(II)I"⟩, 17) := ⟨⟨by decide +kernel, by decide +kernel⟩, List.mem_of_getElem? (i := 14) (by decide +kernel), List.mem_of_getElem? (i := 582) (by decide +kernel), List.mem_of_getElem? (i := 583) (by decide +kernel)⟩
theorem lw_p18 : lw_okq (⟨"GoldTouch", "goldEnd", "(I)I"⟩, 17) := ⟨⟨by decide +kernel, by decide +kernel⟩, List.mem_of_getElem? (i := 14) (by decide +kernel), List.mem_of_getElem? (i := 601) (by decide +kernel), List.mem_of_getElem? (i := 602) (by decide +kernel)⟩
theorem lw_p19 : lw_okq (⟨"GoldTouch", "fitsSeen", "(III)Z"⟩, 17) := ⟨⟨by decide +kernel, by decide +kernel⟩, List.mem_of_getElem? (i := 14) (by decide +kernel), List.mem_of_getElem? (i := 605) (by decide +kernel), List.mem_of_getElem? (i := 606) (by decide +kernel)⟩
theorem lw_p20 : lw_okq (⟨"GoldTouch", "cleanAnyway", "()I"⟩, 17) := ⟨⟨by decide +kernel, by decide +kernel⟩, List.mem_of_getElem? (i := 14) (by decide +kernel), List.mem_of_getElem? (i := 614) (by decide +kernel), List.mem_of_getElem? (i := 615) (by decide +kernel)⟩
theorem lw_p21 : lw_okq (⟨"GoldTouch", "cleanBehind", "(I)I"⟩, 17) := ⟨⟨by decide +kernel, by decide +kernel⟩, List.mem_of_getElem? (i := 14) (by decide +kernel), List.mem_of_getElem? (i := 618) (by decide +kernel), List.mem_of_getElem? (i := 619) (by decide +kernel)⟩
theorem lw_p22 : lw_okq (⟨"GoldTouchModel", "plain", "()V"⟩, 33) := ⟨⟨by decide +kernel, by decide +kernel⟩, List.mem_of_getElem? (i := 637) (by decide +kernel), List.mem_of_getElem? (i := 643) (by decide +kernel), List.mem_of_getElem? (i := 644) (by decide +kernel)⟩
theorem lw_p23 : lw_okq (⟨"GoldTouchModel", "begin", "()V"⟩, 33) := ⟨⟨by decide +kernel, by decide +kernel⟩, List.mem_of_getElem? (i := 637) (by decide +kernel), List.mem_of_getElem? (i := 647) (by decide +kernel), List.mem_of_getElem? (i := 648) (by decide +kernel)⟩
theorem lw_p24 : lw_okq (⟨"GoldTouchModel", "isRead", "()Z"⟩, 33) := ⟨⟨by decide +kernel, by decide +kernel⟩, List.mem_of_getElem? (i := 637) (by decide +kernel), List.mem_of_getElem? (i := 767) (by decide +kernel), List.mem_of_getElem? (i := 768) (by decide +kernel)⟩
theorem lw_p25 : lw_okq (⟨"GoldTouchModel", "isLine", "(I)Z"⟩, 33) := ⟨⟨by decide +kernel, by decide +kernel⟩, List.mem_of_getElem? (i := 637) (by decide +kernel), List.mem_of_getElem? (i := 771) (by decide +kernel), List.mem_of_getElem? (i := 772) (by decide +kernel)⟩
theorem lw_p26 : lw_okq (⟨"GoldTouchModel", "nextToken", "()V"⟩, 33) := ⟨⟨by decide +kernel, by decide +kernel⟩, List.mem_of_getElem? (i := 637) (by decide +kernel), List.mem_of_getElem? (i := 775) (by decide +kernel), List.mem_of_getElem? (i := 776) (by decide +kernel)⟩
theorem lw_p27 : lw_okq (⟨"GoldTouchModel", "isThingLine", "(I)Z"⟩, 33) := ⟨⟨by decide +kernel, by decide +kernel⟩, List.mem_of_getElem? (i := 637) (by decide +kernel), List.mem_of_getElem? (i := 796) (by decide +kernel), List.mem_of_getElem? (i := 797) (by decide +kernel)⟩
theorem lw_p28 : lw_okq (⟨"GoldTouchModel", "fails", "()Z"⟩, 33) := ⟨⟨by decide +kernel, by decide +kernel⟩, List.mem_of_getElem? (i := 637) (by decide +kernel), List.mem_of_getElem? (i := 800) (by decide +kernel), List.mem_of_getElem? (i := 801) (by decide +kernel)⟩
theorem lw_p29 : lw_okq (⟨"GoldTouchModel", "isNumber", "(III)Z"⟩, 33) := ⟨⟨by decide +kernel, by decide +kernel⟩, List.mem_of_getElem? (i := 637) (by decide +kernel), List.mem_of_getElem? (i := 804) (by decide +kernel), List.mem_of_getElem? (i := 805) (by decide +kernel)⟩
theorem lw_p30 : lw_okq (⟨"GoldTouchModel", "doLine", "(I)V"⟩, 33) := ⟨⟨by decide +kernel, by decide +kernel⟩, List.mem_of_getElem? (i := 637) (by decide +kernel), List.mem_of_getElem? (i := 812) (by decide +kernel), List.mem_of_getElem? (i := 813) (by decide +kernel)⟩
theorem lw_p31 : lw_okq (⟨"GoldTouchModel", "isThing", "(I)Z"⟩, 33) := ⟨⟨by decide +kernel, by decide +kernel⟩, List.mem_of_getElem? (i := 637) (by decide +kernel), List.mem_of_getElem? (i := 820) (by decide +kernel), List.mem_of_getElem? (i := 821) (by decide +kernel)⟩
def lw_privs_2 : List (MethodName × Nat) := [(⟨"GoldTouch", "isRest", "(II)Z"⟩, 17), (⟨"GoldTouch", "thiefGain", "(II)I"⟩, 17), (⟨"GoldTouch", "goldEnd", "(I)I"⟩, 17), (⟨"GoldTouch", "fitsSeen", "(III)Z"⟩, 17), (⟨"GoldTouch", "cleanAnyway", "()I"⟩, 17), (⟨"GoldTouch", "cleanBehind", "(I)I"⟩, 17), (⟨"GoldTouchModel", "plain", "()V"⟩, 33), (⟨"GoldTouchModel", "begin", "()V"⟩, 33), (⟨"GoldTouchModel", "isRead", "()Z"⟩, 33), (⟨"GoldTouchModel", "isLine", "(I)Z"⟩, 33), (⟨"GoldTouchModel", "nextToken", "()V"⟩, 33), (⟨"GoldTouchModel", "isThingLine", "(I)Z"⟩, 33), (⟨"GoldTouchModel", "fails", "()Z"⟩, 33), (⟨"GoldTouchModel", "isNumber", "(III)Z"⟩, 33), (⟨"GoldTouchModel", "doLine", "(I)V"⟩, 33), (⟨"GoldTouchModel", "isThing", "(I)Z"⟩, 33)]
theorem lw_r2 : ∀ q ∈ lw_privs_2, lw_okq q := List.forall_mem_cons.mpr ⟨lw_p16, List.forall_mem_cons.mpr ⟨lw_p17, List.forall_mem_cons.mpr ⟨lw_p18, List.forall_mem_cons.mpr ⟨lw_p19, List.forall_mem_cons.mpr ⟨lw_p20, List.forall_mem_cons.mpr ⟨lw_p21, List.forall_mem_cons.mpr ⟨lw_p22, List.forall_mem_cons.mpr ⟨lw_p23, List.forall_mem_cons.mpr ⟨lw_p24, List.forall_mem_cons.mpr ⟨lw_p25, List.forall_mem_cons.mpr ⟨lw_p26, List.forall_mem_cons.mpr ⟨lw_p27, List.forall_mem_cons.mpr ⟨lw_p28, List.forall_mem_cons.mpr ⟨lw_p29, List.forall_mem_cons.mpr ⟨lw_p30, List.forall_mem_cons.mpr ⟨lw_p31, fun _ h => absurd h List.not_mem_nil⟩⟩⟩⟩⟩⟩⟩⟩⟩⟩⟩⟩⟩⟩⟩⟩
theorem lw_p32 : lw_okq (⟨"GoldTouchModel", "priceOf", "([II)I"⟩, 33) := ⟨⟨by decide +kernel, by decide +kernel⟩, List.mem_of_getElem? (i := 637) (by decide +kernel), List.mem_of_getElem? (i := 824) (by decide +kernel), List.mem_of_getElem? (i := 825) (by decide +kernel)⟩
theorem lw_p33 : lw_okq (⟨"GoldTouchModel", "isThere", "([II)Z"⟩, 33) := ⟨⟨by decide +kernel, by decide +kernel⟩, List.mem_of_getElem? (i := 637) (by decide +kernel), List.mem_of_getElem? (i := 828) (by decide +kernel), List.mem_of_getElem? (i := 829) (by decide +kernel)⟩
theorem lw_p34 : lw_okq (⟨"GoldTouchModel", "floorOf", "(I)I"⟩, 33) := ⟨⟨by decide +kernel, by decide +kernel⟩, List.mem_of_getElem? (i := 637) (by decide +kernel), List.mem_of_getElem? (i := 835) (by decide +kernel), List.mem_of_getElem? (i := 836) (by decide +kernel)⟩
theorem lw_p35 : lw_okq (⟨"GoldTouchModel", "kindOf", "(I)I"⟩, 33) := ⟨⟨by decide +kernel, by decide +kernel⟩, List.mem_of_getElem? (i := 637) (by decide +kernel), List.mem_of_getElem? (i := 843) (by decide +kernel), List.mem_of_getElem? (i := 844) (by decide +kernel)⟩
theorem lw_p36 : lw_okq (⟨"GoldTouchModel", "weighs", "([II)I"⟩, 33) := ⟨⟨by decide +kernel, by decide +kernel⟩, List.mem_of_getElem? (i := 637) (by decide +kernel), List.mem_of_getElem? (i := 847) (by decide +kernel), List.mem_of_getElem? (i := 848) (by decide +kernel)⟩
theorem lw_p37 : lw_okq (⟨"GoldTouchModel", "loadOf", "([II)I"⟩, 33) := ⟨⟨by decide +kernel, by decide +kernel⟩, List.mem_of_getElem? (i := 637) (by decide +kernel), List.mem_of_getElem? (i := 855) (by decide +kernel), List.mem_of_getElem? (i := 856) (by decide +kernel)⟩
theorem lw_p38 : lw_okq (⟨"GoldTouchModel", "toolOf", "(I)I"⟩, 33) := ⟨⟨by decide +kernel, by decide +kernel⟩, List.mem_of_getElem? (i := 637) (by decide +kernel), List.mem_of_getElem? (i := 859) (by decide +kernel), List.mem_of_getElem? (i := 860) (by decide +kernel)⟩
theorem lw_p39 : lw_okq (⟨"GoldTouchModel", "isTask", "(I)Z"⟩, 33) := ⟨⟨by decide +kernel, by decide +kernel⟩, List.mem_of_getElem? (i := 637) (by decide +kernel), List.mem_of_getElem? (i := 863) (by decide +kernel), List.mem_of_getElem? (i := 864) (by decide +kernel)⟩
theorem lw_p40 : lw_okq (⟨"GoldTouchModel", "handIn", "(II)I"⟩, 33) := ⟨⟨by decide +kernel, by decide +kernel⟩, List.mem_of_getElem? (i := 637) (by decide +kernel), List.mem_of_getElem? (i := 871) (by decide +kernel), List.mem_of_getElem? (i := 872) (by decide +kernel)⟩
theorem lw_p41 : lw_okq (⟨"GoldTouchModel", "handBehind", "(I)I"⟩, 33) := ⟨⟨by decide +kernel, by decide +kernel⟩, List.mem_of_getElem? (i := 637) (by decide +kernel), List.mem_of_getElem? (i := 875) (by decide +kernel), List.mem_of_getElem? (i := 876) (by decide +kernel)⟩
theorem lw_p42 : lw_okq (⟨"GoldTouchModel", "note", "()V"⟩, 33) := ⟨⟨by decide +kernel, by decide +kernel⟩, List.mem_of_getElem? (i := 637) (by decide +kernel), List.mem_of_getElem? (i := 883) (by decide +kernel), List.mem_of_getElem? (i := 884) (by decide +kernel)⟩
theorem lw_p43 : lw_okq (⟨"GoldTouchModel", "touches", "(I)V"⟩, 33) := ⟨⟨by decide +kernel, by decide +kernel⟩, List.mem_of_getElem? (i := 637) (by decide +kernel), List.mem_of_getElem? (i := 890) (by decide +kernel), List.mem_of_getElem? (i := 891) (by decide +kernel)⟩
theorem lw_p44 : lw_okq (⟨"GoldTouchModel", "pass", "([I)V"⟩, 33) := ⟨⟨by decide +kernel, by decide +kernel⟩, List.mem_of_getElem? (i := 637) (by decide +kernel), List.mem_of_getElem? (i := 894) (by decide +kernel), List.mem_of_getElem? (i := 895) (by decide +kernel)⟩
theorem lw_p45 : lw_okq (⟨"GoldTouchModel", "isBy", "(II)Z"⟩, 33) := ⟨⟨by decide +kernel, by decide +kernel⟩, List.mem_of_getElem? (i := 637) (by decide +kernel), List.mem_of_getElem? (i := 902) (by decide +kernel), List.mem_of_getElem? (i := 903) (by decide +kernel)⟩
theorem lw_p46 : lw_okq (⟨"GoldTouchModel", "tooLoaded", "([I)I"⟩, 33) := ⟨⟨by decide +kernel, by decide +kernel⟩, List.mem_of_getElem? (i := 637) (by decide +kernel), List.mem_of_getElem? (i := 934) (by decide +kernel), List.mem_of_getElem? (i := 935) (by decide +kernel)⟩
theorem lw_p47 : lw_okq (⟨"GoldTouchModel", "pricesOf", "([I)I"⟩, 33) := ⟨⟨by decide +kernel, by decide +kernel⟩, List.mem_of_getElem? (i := 637) (by decide +kernel), List.mem_of_getElem? (i := 938) (by decide +kernel), List.mem_of_getElem? (i := 939) (by decide +kernel)⟩
def lw_privs_3 : List (MethodName × Nat) := [(⟨"GoldTouchModel", "priceOf", "([II)I"⟩, 33), (⟨"GoldTouchModel", "isThere", "([II)Z"⟩, 33), (⟨"GoldTouchModel", "floorOf", "(I)I"⟩, 33), (⟨"GoldTouchModel", "kindOf", "(I)I"⟩, 33), (⟨"GoldTouchModel", "weighs", "([II)I"⟩, 33), (⟨"GoldTouchModel", "loadOf", "([II)I"⟩, 33), (⟨"GoldTouchModel", "toolOf", "(I)I"⟩, 33), (⟨"GoldTouchModel", "isTask", "(I)Z"⟩, 33), (⟨"GoldTouchModel", "handIn", "(II)I"⟩, 33), (⟨"GoldTouchModel", "handBehind", "(I)I"⟩, 33), (⟨"GoldTouchModel", "note", "()V"⟩, 33), (⟨"GoldTouchModel", "touches", "(I)V"⟩, 33), (⟨"GoldTouchModel", "pass", "([I)V"⟩, 33), (⟨"GoldTouchModel", "isBy", "(II)Z"⟩, 33), (⟨"GoldTouchModel", "tooLoaded", "([I)I"⟩, 33), (⟨"GoldTouchModel", "pricesOf", "([I)I"⟩, 33)]
theorem lw_r3 : ∀ q ∈ lw_privs_3, lw_okq q := List.forall_mem_cons.mpr ⟨lw_p32, List.forall_mem_cons.mpr ⟨lw_p33, List.forall_mem_cons.mpr ⟨lw_p34, List.forall_mem_cons.mpr ⟨lw_p35, List.forall_mem_cons.mpr ⟨lw_p36, List.forall_mem_cons.mpr ⟨lw_p37, List.forall_mem_cons.mpr ⟨lw_p38, List.forall_mem_cons.mpr ⟨lw_p39, List.forall_mem_cons.mpr ⟨lw_p40, List.forall_mem_cons.mpr ⟨lw_p41, List.forall_mem_cons.mpr ⟨lw_p42, List.forall_mem_cons.mpr ⟨lw_p43, List.forall_mem_cons.mpr ⟨lw_p44, List.forall_mem_cons.mpr ⟨lw_p45, List.forall_mem_cons.mpr ⟨lw_p46, List.forall_mem_cons.mpr ⟨lw_p47, fun _ h => absurd h List.not_mem_nil⟩⟩⟩⟩⟩⟩⟩⟩⟩⟩⟩⟩⟩⟩⟩⟩
theorem lw_p48 : lw_okq (⟨"GoldTouchModel", "layPlans", "()V"⟩, 33) := ⟨⟨by decide +kernel, by decide +kernel⟩, List.mem_of_getElem? (i := 637) (by decide +kernel), List.mem_of_getElem? (i := 966) (by decide +kernel), List.mem_of_getElem? (i := 967) (by decide +kernel)⟩
theorem lw_p49 : lw_okq (⟨"GoldTouchModel", "canDo", "(III)Z"⟩, 33) := ⟨⟨by decide +kernel, by decide +kernel⟩, List.mem_of_getElem? (i := 637) (by decide +kernel), List.mem_of_getElem? (i := 973) (by decide +kernel), List.mem_of_getElem? (i := 974) (by decide +kernel)⟩
theorem lw_p50 : lw_okq (⟨"GoldTouchModel", "behind", "(IIIII)I"⟩, 33) := ⟨⟨by decide +kernel, by decide +kernel⟩, List.mem_of_getElem? (i := 637) (by decide +kernel), List.mem_of_getElem? (i := 977) (by decide +kernel), List.mem_of_getElem? (i := 978) (by decide +kernel)⟩
theorem lw_p51 : lw_okq (⟨"GoldTouchModel", "goldBy", "(IIII)I"⟩, 33) := ⟨⟨by decide +kernel, by decide +kernel⟩, List.mem_of_getElem? (i := 637) (by decide +kernel), List.mem_of_getElem? (i := 981) (by decide +kernel), List.mem_of_getElem? (i := 982) (by decide +kernel)⟩
theorem lw_p52 : lw_okq (⟨"GoldTouchModel", "costOf", "(IIII)I"⟩, 33) := ⟨⟨by decide +kernel, by decide +kernel⟩, List.mem_of_getElem? (i := 637) (by decide +kernel), List.mem_of_getElem? (i := 988) (by decide +kernel), List.mem_of_getElem? (i := 989) (by decide +kernel)⟩
theorem lw_p53 : lw_okq (⟨"GoldTouchModel", "costBy", "(III)I"⟩, 33) := ⟨⟨by decide +kernel, by decide +kernel⟩, List.mem_of_getElem? (i := 637) (by decide +kernel), List.mem_of_getElem? (i := 992) (by decide +kernel), List.mem_of_getElem? (i := 993) (by decide +kernel)⟩
theorem lw_p54 : lw_okq (⟨"GoldTouchModel", "pricesIn", "(I)I"⟩, 33) := ⟨⟨by decide +kernel, by decide +kernel⟩, List.mem_of_getElem? (i := 637) (by decide +kernel), List.mem_of_getElem? (i := 1000) (by decide +kernel), List.mem_of_getElem? (i := 1001) (by decide +kernel)⟩
theorem lw_p55 : lw_okq (⟨"GoldTouchModel", "lootOf", "(II)I"⟩, 33) := ⟨⟨by decide +kernel, by decide +kernel⟩, List.mem_of_getElem? (i := 637) (by decide +kernel), List.mem_of_getElem? (i := 1012) (by decide +kernel), List.mem_of_getElem? (i := 1013) (by decide +kernel)⟩
theorem lw_p56 : lw_okq (⟨"GoldTouchModel", "isGold", "(II)Z"⟩, 33) := ⟨⟨by decide +kernel, by decide +kernel⟩, List.mem_of_getElem? (i := 637) (by decide +kernel), List.mem_of_getElem? (i := 1028) (by decide +kernel), List.mem_of_getElem? (i := 1029) (by decide +kernel)⟩
def lw_privs_4 : List (MethodName × Nat) := [(⟨"GoldTouchModel", "layPlans", "()V"⟩, 33), (⟨"GoldTouchModel", "canDo", "(III)Z"⟩, 33), (⟨"GoldTouchModel", "behind", "(IIIII)I"⟩, 33), (⟨"GoldTouchModel", "goldBy", "(IIII)I"⟩, 33), (⟨"GoldTouchModel", "costOf", "(IIII)I"⟩, 33), (⟨"GoldTouchModel", "costBy", "(III)I"⟩, 33), (⟨"GoldTouchModel", "pricesIn", "(I)I"⟩, 33), (⟨"GoldTouchModel", "lootOf", "(II)I"⟩, 33), (⟨"GoldTouchModel", "isGold", "(II)Z"⟩, 33)]
theorem lw_r4 : ∀ q ∈ lw_privs_4, lw_okq q := List.forall_mem_cons.mpr ⟨lw_p48, List.forall_mem_cons.mpr ⟨lw_p49, List.forall_mem_cons.mpr ⟨lw_p50, List.forall_mem_cons.mpr ⟨lw_p51, List.forall_mem_cons.mpr ⟨lw_p52, List.forall_mem_cons.mpr ⟨lw_p53, List.forall_mem_cons.mpr ⟨lw_p54, List.forall_mem_cons.mpr ⟨lw_p55, List.forall_mem_cons.mpr ⟨lw_p56, fun _ h => absurd h List.not_mem_nil⟩⟩⟩⟩⟩⟩⟩⟩⟩
def lw_privs : List (MethodName × Nat) := lw_privs_1 ++ (lw_privs_2 ++ (lw_privs_3 ++ (lw_privs_4)))
def lw_tbl : List Cond := k2_sels lw_privs ++ tables_1
theorem lw_privs_ok : ∀ q ∈ lw_privs, lw_okq q := by
  show ∀ q ∈ lw_privs_1 ++ (lw_privs_2 ++ (lw_privs_3 ++ (lw_privs_4))), lw_okq q
  exact List.forall_mem_append.mpr ⟨lw_r1, List.forall_mem_append.mpr ⟨lw_r2, List.forall_mem_append.mpr ⟨lw_r3, lw_r4⟩⟩⟩
def RX0 : String := "GoldTouch$Court"
def TX0 : u_T := fun k => match k with
  | 0 => ("GoldTouch$Court", "kind", "[I", true)
  | 1 => ("GoldTouch$Court", "weight", "[I", true)
  | 2 => ("GoldTouch$Court", "worth", "[I", true)
  | 3 => ("GoldTouch$Court", "place", "[I", true)
  | 4 => ("GoldTouch$Court", "bears", "[I", true)
  | 5 => ("GoldTouch$Court", "things", "I", false)
  | 6 => ("GoldTouch$Court", "wash", "I", false)
  | 7 => ("GoldTouch$Court", "chill", "I", false)
  | _ => ("GoldTouch$Court", "noon", "I", false)
def tyX0 : Nat → FieldType := fun k => match k with
  | 0 => .array .int
  | 1 => .array .int
  | 2 => .array .int
  | 3 => .array .int
  | 4 => .array .int
  | 5 => .int
  | 6 => .int
  | 7 => .int
  | _ => .int
abbrev wsX00 : List Cond := u_ws RX0 TX0 9
theorem nmX0 : ∀ a, a < 9 → ∀ b, b < 9 → a ≠ b → (TX0 a).2.1 ≠ (TX0 b).2.1 := by decide +kernel
theorem tyX0_ok : ∀ k, k < 9 → parseFieldDescriptor (TX0 k).2.2.1 = some (tyX0 k) := by decide +kernel
abbrev cX0_init : ByteArray := prog_2_method_1_code
def yX0_init : MethodName := ⟨RX0, "<init>", "()V"⟩
abbrev cX0_reset : ByteArray := prog_2_method_2_code
def yX0_reset : MethodName := ⟨RX0, "reset", "()V"⟩
abbrev cX0_copyFrom : ByteArray := prog_2_method_3_code
def yX0_copyFrom : MethodName := ⟨RX0, "copyFrom", "(LGoldTouch$Court;)V"⟩
abbrev cX0_addThing : ByteArray := prog_2_method_4_code
def yX0_addThing : MethodName := ⟨RX0, "addThing", "(IIII)V"⟩
def RX1 : String := "GoldTouch$Day"
def TX1 : u_T := fun k => match k with
  | 0 => ("GoldTouch$Day", "minute", "I", false)
  | 1 => ("GoldTouch$Day", "baths", "I", false)
  | 2 => ("GoldTouch$Day", "tillNoon", "I", false)
  | 3 => ("GoldTouch$Day", "forEver", "I", false)
  | 4 => ("GoldTouch$Day", "eaten", "I", false)
  | _ => ("GoldTouch$Day", "broken", "I", false)
def tyX1 : Nat → FieldType := fun k => match k with
  | 0 => .int
  | 1 => .int
  | 2 => .int
  | 3 => .int
  | 4 => .int
  | _ => .int
abbrev wsX10 : List Cond := u_ws RX1 TX1 6
theorem nmX1 : ∀ a, a < 6 → ∀ b, b < 6 → a ≠ b → (TX1 a).2.1 ≠ (TX1 b).2.1 := by decide +kernel
theorem tyX1_ok : ∀ k, k < 6 → parseFieldDescriptor (TX1 k).2.2.1 = some (tyX1 k) := by decide +kernel
abbrev cX1_init : ByteArray := prog_3_method_1_code
def yX1_init : MethodName := ⟨RX1, "<init>", "()V"⟩
abbrev cX1_clear : ByteArray := prog_3_method_2_code
def yX1_clear : MethodName := ⟨RX1, "clear", "()V"⟩
abbrev cX1_copyFrom : ByteArray := prog_3_method_3_code
def yX1_copyFrom : MethodName := ⟨RX1, "copyFrom", "(LGoldTouch$Day;)V"⟩
abbrev cX1_goldOf : ByteArray := prog_3_method_4_code
def yX1_goldOf : MethodName := ⟨RX1, "goldOf", "(I)I"⟩
abbrev cX1_isLost : ByteArray := prog_3_method_5_code
def yX1_isLost : MethodName := ⟨RX1, "isLost", "(LGoldTouch$Court;I)Z"⟩
abbrev cX1_weighs : ByteArray := prog_3_method_6_code
def yX1_weighs : MethodName := ⟨RX1, "weighs", "(LGoldTouch$Court;I)I"⟩
abbrev cX1_loadOf : ByteArray := prog_3_method_7_code
def yX1_loadOf : MethodName := ⟨RX1, "loadOf", "(LGoldTouch$Court;I)I"⟩
abbrev cX1_firstOverloaded : ByteArray := prog_3_method_8_code
def yX1_firstOverloaded : MethodName := ⟨RX1, "firstOverloaded", "(LGoldTouch$Court;)I"⟩
abbrev cX1_priceOf : ByteArray := prog_3_method_9_code
def yX1_priceOf : MethodName := ⟨RX1, "priceOf", "(LGoldTouch$Court;I)I"⟩
abbrev cX1_prices : ByteArray := prog_3_method_10_code
def yX1_prices : MethodName := ⟨RX1, "prices", "(LGoldTouch$Court;)I"⟩
abbrev cX1_openGates : ByteArray := prog_3_method_11_code
def yX1_openGates : MethodName := ⟨RX1, "openGates", "(LGoldTouch$Court;)I"⟩
abbrev cX1_toolOf : ByteArray := prog_3_method_12_code
def yX1_toolOf : MethodName := ⟨RX1, "toolOf", "(LGoldTouch$Court;II)I"⟩
abbrev cX1_gild : ByteArray := prog_3_method_13_code
def yX1_gild : MethodName := ⟨RX1, "gild", "(LGoldTouch$Court;I)V"⟩
abbrev cX1_pass : ByteArray := prog_3_method_14_code
def yX1_pass : MethodName := ⟨RX1, "pass", "(LGoldTouch$Court;)V"⟩
def RX2 : String := "GoldTouch$Planner"
def TX2 : u_T := fun k => match k with
  | 0 => ("GoldTouch$Planner", "cost", "I", false)
  | 1 => ("GoldTouch$Planner", "end", "I", false)
  | 2 => ("GoldTouch$Planner", "first", "I", false)
  | 3 => ("GoldTouch$Planner", "best", "I", false)
  | _ => ("GoldTouch$Planner", "tools", "[I", true)
def tyX2 : Nat → FieldType := fun k => match k with
  | 0 => .int
  | 1 => .int
  | 2 => .int
  | 3 => .int
  | _ => .array .int
abbrev wsX20 : List Cond := u_ws RX2 TX2 5
theorem nmX2 : ∀ a, a < 5 → ∀ b, b < 5 → a ≠ b → (TX2 a).2.1 ≠ (TX2 b).2.1 := by decide +kernel
theorem tyX2_ok : ∀ k, k < 5 → parseFieldDescriptor (TX2 k).2.2.1 = some (tyX2 k) := by decide +kernel
abbrev cX2_init : ByteArray := prog_4_method_1_code
def yX2_init : MethodName := ⟨RX2, "<init>", "()V"⟩
abbrev cX2_findWay : ByteArray := prog_4_method_2_code
def yX2_findWay : MethodName := ⟨RX2, "findWay", "(LGoldTouch$Court;LGoldTouch$Day;I)Z"⟩
abbrev cX2_search : ByteArray := prog_4_method_3_code
def yX2_search : MethodName := ⟨RX2, "search", "(LGoldTouch$Court;IIIIII)V"⟩
abbrev cX2_firstOf : ByteArray := prog_4_method_4_code
def yX2_firstOf : MethodName := ⟨RX2, "firstOf", "(II)I"⟩
abbrev cX2_rankOf : ByteArray := prog_4_method_5_code
def yX2_rankOf : MethodName := ⟨RX2, "rankOf", "(II)I"⟩
abbrev cX2_take : ByteArray := prog_4_method_6_code
def yX2_take : MethodName := ⟨RX2, "take", "(III)V"⟩
def RX3 : String := "GoldTouch$Reader"
def TX3 : u_T := fun k => match k with
  | 0 => ("GoldTouch$Reader", "letters", "[I", true)
  | 1 => ("GoldTouch$Reader", "length", "I", false)
  | 2 => ("GoldTouch$Reader", "clauses", "I", false)
  | 3 => ("GoldTouch$Reader", "tokenStart", "I", false)
  | 4 => ("GoldTouch$Reader", "tokenEnd", "I", false)
  | _ => ("GoldTouch$Reader", "numbers", "[I", true)
def tyX3 : Nat → FieldType := fun k => match k with
  | 0 => .array .int
  | 1 => .int
  | 2 => .int
  | 3 => .int
  | 4 => .int
  | _ => .array .int
abbrev wsX30 : List Cond := u_ws RX3 TX3 6
theorem nmX3 : ∀ a, a < 6 → ∀ b, b < 6 → a ≠ b → (TX3 a).2.1 ≠ (TX3 b).2.1 := by decide +kernel
theorem tyX3_ok : ∀ k, k < 6 → parseFieldDescriptor (TX3 k).2.2.1 = some (tyX3 k) := by decide +kernel
abbrev cX3_init : ByteArray := prog_5_method_1_code
def yX3_init : MethodName := ⟨RX3, "<init>", "()V"⟩
abbrev cX3_readOnto : ByteArray := prog_5_method_2_code
def yX3_readOnto : MethodName := ⟨RX3, "readOnto", "(LGoldTouch$Court;)I"⟩
abbrev cX3_readClause : ByteArray := prog_5_method_3_code
def yX3_readClause : MethodName := ⟨RX3, "readClause", "(LGoldTouch$Court;)Z"⟩
abbrev cX3_doClause : ByteArray := prog_5_method_4_code
def yX3_doClause : MethodName := ⟨RX3, "doClause", "(LGoldTouch$Court;I)V"⟩
abbrev cX3_setBears : ByteArray := prog_5_method_5_code
def yX3_setBears : MethodName := ⟨RX3, "setBears", "(LGoldTouch$Court;II)V"⟩
abbrev cX3_leastOf : ByteArray := prog_5_method_6_code
def yX3_leastOf : MethodName := ⟨RX3, "leastOf", "(II)I"⟩
abbrev cX3_mostOf : ByteArray := prog_5_method_7_code
def yX3_mostOf : MethodName := ⟨RX3, "mostOf", "(II)I"⟩
abbrev cX3_wordText : ByteArray := prog_5_method_8_code
def yX3_wordText : MethodName := ⟨RX3, "wordText", "(I)Ljava/lang/String;"⟩
abbrev cX3_readWord : ByteArray := prog_5_method_9_code
def yX3_readWord : MethodName := ⟨RX3, "readWord", "()I"⟩
abbrev cX3_isToken : ByteArray := prog_5_method_10_code
def yX3_isToken : MethodName := ⟨RX3, "isToken", "(Ljava/lang/String;)Z"⟩
abbrev cX3_readNumber : ByteArray := prog_5_method_11_code
def yX3_readNumber : MethodName := ⟨RX3, "readNumber", "()I"⟩
abbrev cX3_nextToken : ByteArray := prog_5_method_12_code
def yX3_nextToken : MethodName := ⟨RX3, "nextToken", "()V"⟩
abbrev cX3_letterAt : ByteArray := prog_5_method_13_code
def yX3_letterAt : MethodName := ⟨RX3, "letterAt", "(I)I"⟩
abbrev cX3_isSmall : ByteArray := prog_5_method_14_code
def yX3_isSmall : MethodName := ⟨RX3, "isSmall", "(I)Z"⟩
abbrev cX3_isDigit : ByteArray := prog_5_method_15_code
def yX3_isDigit : MethodName := ⟨RX3, "isDigit", "(I)Z"⟩
def RX4 : String := "GoldTouch"
def TX4 : u_T := fun k => match k with
  | 0 => ("GoldTouch", "court", "LGoldTouch$Court;", true)
  | 1 => ("GoldTouch", "draft", "LGoldTouch$Court;", true)
  | 2 => ("GoldTouch", "text", "LGoldTouch$Reader;", true)
  | 3 => ("GoldTouch", "day", "LGoldTouch$Day;", true)
  | 4 => ("GoldTouch", "ahead", "LGoldTouch$Day;", true)
  | 5 => ("GoldTouch", "past", "[LGoldTouch$Day;", true)
  | 6 => ("GoldTouch", "pastCount", "I", false)
  | 7 => ("GoldTouch", "kept", "[LGoldTouch$Day;", true)
  | 8 => ("GoldTouch", "keptBits", "I", false)
  | 9 => ("GoldTouch", "row", "[I", true)
  | 10 => ("GoldTouch", "rowCount", "I", false)
  | 11 => ("GoldTouch", "taskBits", "I", false)
  | 12 => ("GoldTouch", "planner", "LGoldTouch$Planner;", true)
  | 13 => ("GoldTouch", "seenThing", "[I", true)
  | 14 => ("GoldTouch", "seenMinute", "[I", true)
  | 15 => ("GoldTouch", "seenGold", "[I", true)
  | _ => ("GoldTouch", "seenCount", "I", false)
def tyX4 : Nat → FieldType := fun k => match k with
  | 0 => .object "GoldTouch$Court"
  | 1 => .object "GoldTouch$Court"
  | 2 => .object "GoldTouch$Reader"
  | 3 => .object "GoldTouch$Day"
  | 4 => .object "GoldTouch$Day"
  | 5 => .array (.object "GoldTouch$Day")
  | 6 => .int
  | 7 => .array (.object "GoldTouch$Day")
  | 8 => .int
  | 9 => .array .int
  | 10 => .int
  | 11 => .int
  | 12 => .object "GoldTouch$Planner"
  | 13 => .array .int
  | 14 => .array .int
  | 15 => .array .int
  | _ => .int
abbrev wsX40 : List Cond := u_ws RX4 TX4 17
theorem nmX4 : ∀ a, a < 17 → ∀ b, b < 17 → a ≠ b → (TX4 a).2.1 ≠ (TX4 b).2.1 := by decide +kernel
theorem tyX4_ok : ∀ k, k < 17 → parseFieldDescriptor (TX4 k).2.2.1 = some (tyX4 k) := by decide +kernel
abbrev cX4_init : ByteArray := prog_1_method_1_code
def yX4_init : MethodName := ⟨RX4, "<init>", "()V"⟩
abbrev cX4_write : ByteArray := prog_1_method_2_code
def yX4_write : MethodName := ⟨RX4, "write", "(I)I"⟩
abbrev cX4_erase : ByteArray := prog_1_method_3_code
def yX4_erase : MethodName := ⟨RX4, "erase", "()I"⟩
abbrev cX4_fault : ByteArray := prog_1_method_4_code
def yX4_fault : MethodName := ⟨RX4, "fault", "()I"⟩
abbrev cX4_court : ByteArray := prog_1_method_5_code
def yX4_court : MethodName := ⟨RX4, "court", "()I"⟩
abbrev cX4_thing : ByteArray := prog_1_method_6_code
def yX4_thing : MethodName := ⟨RX4, "thing", "(II)I"⟩
abbrev cX4_as : ByteArray := prog_1_method_7_code
def yX4_as : MethodName := ⟨RX4, "as", "(II)I"⟩
abbrev cX4_floor : ByteArray := prog_1_method_8_code
def yX4_floor : MethodName := ⟨RX4, "floor", "(II)I"⟩
abbrev cX4_hand : ByteArray := prog_1_method_9_code
def yX4_hand : MethodName := ⟨RX4, "hand", "(I)I"⟩
abbrev cX4_touch : ByteArray := prog_1_method_10_code
def yX4_touch : MethodName := ⟨RX4, "touch", "(I)I"⟩
abbrev cX4_by : ByteArray := prog_1_method_11_code
def yX4_by : MethodName := ⟨RX4, "by", "(II)I"⟩
abbrev cX4_eat : ByteArray := prog_1_method_12_code
def yX4_eat : MethodName := ⟨RX4, "eat", "(II)I"⟩
abbrev cX4_bathe : ByteArray := prog_1_method_13_code
def yX4_bathe : MethodName := ⟨RX4, "bathe", "()I"⟩
abbrev cX4_idle : ByteArray := prog_1_method_14_code
def yX4_idle : MethodName := ⟨RX4, "idle", "()I"⟩
abbrev cX4_undo : ByteArray := prog_1_method_15_code
def yX4_undo : MethodName := ⟨RX4, "undo", "()I"⟩
abbrev cX4_keep : ByteArray := prog_1_method_16_code
def yX4_keep : MethodName := ⟨RX4, "keep", "(I)I"⟩
abbrev cX4_back : ByteArray := prog_1_method_17_code
def yX4_back : MethodName := ⟨RX4, "back", "(I)I"⟩
abbrev cX4_town : ByteArray := prog_1_method_18_code
def yX4_town : MethodName := ⟨RX4, "town", "(II)I"⟩
abbrev cX4_put : ByteArray := prog_1_method_19_code
def yX4_put : MethodName := ⟨RX4, "put", "(I)I"⟩
abbrev cX4_wipe : ByteArray := prog_1_method_20_code
def yX4_wipe : MethodName := ⟨RX4, "wipe", "()I"⟩
abbrev cX4_goes : ByteArray := prog_1_method_21_code
def yX4_goes : MethodName := ⟨RX4, "goes", "(I)I"⟩
abbrev cX4_task : ByteArray := prog_1_method_22_code
def yX4_task : MethodName := ⟨RX4, "task", "(I)I"⟩
abbrev cX4_drop : ByteArray := prog_1_method_23_code
def yX4_drop : MethodName := ⟨RX4, "drop", "()I"⟩
abbrev cX4_plan : ByteArray := prog_1_method_24_code
def yX4_plan : MethodName := ⟨RX4, "plan", "(I)I"⟩
abbrev cX4_price : ByteArray := prog_1_method_25_code
def yX4_price : MethodName := ⟨RX4, "price", "(I)I"⟩
abbrev cX4_sell : ByteArray := prog_1_method_26_code
def yX4_sell : MethodName := ⟨RX4, "sell", "(I)I"⟩
abbrev cX4_thief : ByteArray := prog_1_method_27_code
def yX4_thief : MethodName := ⟨RX4, "thief", "(I)I"⟩
abbrev cX4_look : ByteArray := prog_1_method_28_code
def yX4_look : MethodName := ⟨RX4, "look", "(III)I"⟩
abbrev cX4_forget : ByteArray := prog_1_method_29_code
def yX4_forget : MethodName := ⟨RX4, "forget", "()I"⟩
abbrev cX4_fit : ByteArray := prog_1_method_30_code
def yX4_fit : MethodName := ⟨RX4, "fit", "(I)I"⟩
abbrev cX4_baths : ByteArray := prog_1_method_31_code
def yX4_baths : MethodName := ⟨RX4, "baths", "(II)I"⟩
abbrev cX4_slips : ByteArray := prog_1_method_32_code
def yX4_slips : MethodName := ⟨RX4, "slips", "(IIII)J"⟩
abbrev cX4_count : ByteArray := prog_1_method_33_code
def yX4_count : MethodName := ⟨RX4, "count", "(I)I"⟩
abbrev cX4_hasBit : ByteArray := prog_1_method_34_code
def yX4_hasBit : MethodName := ⟨RX4, "hasBit", "(II)Z"⟩
abbrev cX4_isThing : ByteArray := prog_1_method_35_code
def yX4_isThing : MethodName := ⟨RX4, "isThing", "(I)Z"⟩
abbrev cX4_isUnder : ByteArray := prog_1_method_36_code
def yX4_isUnder : MethodName := ⟨RX4, "isUnder", "(II)Z"⟩
abbrev cX4_handIn : ByteArray := prog_1_method_37_code
def yX4_handIn : MethodName := ⟨RX4, "handIn", "(LGoldTouch$Court;II)I"⟩
abbrev cX4_startDay : ByteArray := prog_1_method_38_code
def yX4_startDay : MethodName := ⟨RX4, "startDay", "()V"⟩
abbrev cX4_servesAsTool : ByteArray := prog_1_method_39_code
def yX4_servesAsTool : MethodName := ⟨RX4, "servesAsTool", "(II)Z"⟩
abbrev cX4_remember : ByteArray := prog_1_method_40_code
def yX4_remember : MethodName := ⟨RX4, "remember", "()V"⟩
abbrev cX4_doTouching : ByteArray := prog_1_method_41_code
def yX4_doTouching : MethodName := ⟨RX4, "doTouching", "(I)I"⟩
abbrev cX4_doEating : ByteArray := prog_1_method_42_code
def yX4_doEating : MethodName := ⟨RX4, "doEating", "(II)I"⟩
abbrev cX4_townThings : ByteArray := prog_1_method_43_code
def yX4_townThings : MethodName := ⟨RX4, "townThings", "()I"⟩
abbrev cX4_thiefGain : ByteArray := prog_1_method_44_code
def yX4_thiefGain : MethodName := ⟨RX4, "thiefGain", "(II)I"⟩
abbrev cX4_isRest : ByteArray := prog_1_method_45_code
def yX4_isRest : MethodName := ⟨RX4, "isRest", "(II)Z"⟩
abbrev cX4_goldEnd : ByteArray := prog_1_method_46_code
def yX4_goldEnd : MethodName := ⟨RX4, "goldEnd", "(I)I"⟩
abbrev cX4_fitsSeen : ByteArray := prog_1_method_47_code
def yX4_fitsSeen : MethodName := ⟨RX4, "fitsSeen", "(III)Z"⟩
abbrev cX4_cleanAnyway : ByteArray := prog_1_method_48_code
def yX4_cleanAnyway : MethodName := ⟨RX4, "cleanAnyway", "()I"⟩
abbrev cX4_cleanBehind : ByteArray := prog_1_method_49_code
def yX4_cleanBehind : MethodName := ⟨RX4, "cleanBehind", "(I)I"⟩
abbrev cX4_power : ByteArray := prog_1_method_50_code
def yX4_power : MethodName := ⟨RX4, "power", "(II)J"⟩
abbrev cX4_commonDivisor : ByteArray := prog_1_method_51_code
def yX4_commonDivisor : MethodName := ⟨RX4, "commonDivisor", "(JJ)J"⟩
def RX5 : String := "GoldTouchModel"
def TX5 : u_T := fun k => match k with
  | 0 => ("GoldTouchModel", "things", "I", false)
  | 1 => ("GoldTouchModel", "thing", "[I", true)
  | 2 => ("GoldTouchModel", "bears", "[I", true)
  | 3 => ("GoldTouchModel", "wash", "I", false)
  | 4 => ("GoldTouchModel", "chill", "I", false)
  | 5 => ("GoldTouchModel", "noon", "I", false)
  | 6 => ("GoldTouchModel", "letters", "I", false)
  | 7 => ("GoldTouchModel", "text", "[I", true)
  | 8 => ("GoldTouchModel", "position", "I", false)
  | 9 => ("GoldTouchModel", "tokenAt", "I", false)
  | 10 => ("GoldTouchModel", "token", "J", false)
  | 11 => ("GoldTouchModel", "digits", "I", false)
  | 12 => ("GoldTouchModel", "number", "I", false)
  | 13 => ("GoldTouchModel", "faultAt", "I", false)
  | 14 => ("GoldTouchModel", "readMany", "I", false)
  | 15 => ("GoldTouchModel", "readThings", "I", false)
  | 16 => ("GoldTouchModel", "read", "[I", true)
  | 17 => ("GoldTouchModel", "now", "[I", true)
  | 18 => ("GoldTouchModel", "tried", "[I", true)
  | 19 => ("GoldTouchModel", "image", "[I", true)
  | 20 => ("GoldTouchModel", "isKept", "[Z", true)
  | 21 => ("GoldTouchModel", "backOf", "[I", true)
  | 22 => ("GoldTouchModel", "backs", "I", false)
  | 23 => ("GoldTouchModel", "row", "[I", true)
  | 24 => ("GoldTouchModel", "rowMany", "I", false)
  | 25 => ("GoldTouchModel", "tasks", "[I", true)
  | 26 => ("GoldTouchModel", "taskMany", "I", false)
  | 27 => ("GoldTouchModel", "sight", "[I", true)
  | 28 => ("GoldTouchModel", "sights", "I", false)
  | 29 => ("GoldTouchModel", "cost", "[I", true)
  | 30 => ("GoldTouchModel", "last", "[I", true)
  | 31 => ("GoldTouchModel", "tools", "[I", true)
  | _ => ("GoldTouchModel", "turned", "I", false)
def tyX5 : Nat → FieldType := fun k => match k with
  | 0 => .int
  | 1 => .array .int
  | 2 => .array .int
  | 3 => .int
  | 4 => .int
  | 5 => .int
  | 6 => .int
  | 7 => .array .int
  | 8 => .int
  | 9 => .int
  | 10 => .long
  | 11 => .int
  | 12 => .int
  | 13 => .int
  | 14 => .int
  | 15 => .int
  | 16 => .array .int
  | 17 => .array .int
  | 18 => .array .int
  | 19 => .array .int
  | 20 => .array .boolean
  | 21 => .array .int
  | 22 => .int
  | 23 => .array .int
  | 24 => .int
  | 25 => .array .int
  | 26 => .int
  | 27 => .array .int
  | 28 => .int
  | 29 => .array .int
  | 30 => .array .int
  | 31 => .array .int
  | _ => .int
abbrev wsX50 : List Cond := u_ws RX5 TX5 33
theorem nmX5 : ∀ a, a < 33 → ∀ b, b < 33 → a ≠ b → (TX5 a).2.1 ≠ (TX5 b).2.1 := by decide +kernel
theorem tyX5_ok : ∀ k, k < 33 → parseFieldDescriptor (TX5 k).2.2.1 = some (tyX5 k) := by decide +kernel
abbrev cX5_init : ByteArray := prog_7_method_1_code
def yX5_init : MethodName := ⟨RX5, "<init>", "()V"⟩
abbrev cX5_in : ByteArray := prog_7_method_2_code
def yX5_in : MethodName := ⟨RX5, "in", "(III)Z"⟩
abbrev cX5_has : ByteArray := prog_7_method_3_code
def yX5_has : MethodName := ⟨RX5, "has", "(II)Z"⟩
abbrev cX5_bits : ByteArray := prog_7_method_4_code
def yX5_bits : MethodName := ⟨RX5, "bits", "(I)I"⟩
abbrev cX5_plain : ByteArray := prog_7_method_5_code
def yX5_plain : MethodName := ⟨RX5, "plain", "()V"⟩
abbrev cX5_begin : ByteArray := prog_7_method_6_code
def yX5_begin : MethodName := ⟨RX5, "begin", "()V"⟩
abbrev cX5_kindOf : ByteArray := prog_7_method_7_code
def yX5_kindOf : MethodName := ⟨RX5, "kindOf", "(I)I"⟩
abbrev cX5_floorOf : ByteArray := prog_7_method_8_code
def yX5_floorOf : MethodName := ⟨RX5, "floorOf", "(I)I"⟩
abbrev cX5_isThing : ByteArray := prog_7_method_9_code
def yX5_isThing : MethodName := ⟨RX5, "isThing", "(I)Z"⟩
abbrev cX5_write : ByteArray := prog_7_method_10_code
def yX5_write : MethodName := ⟨RX5, "write", "(I)I"⟩
abbrev cX5_erase : ByteArray := prog_7_method_11_code
def yX5_erase : MethodName := ⟨RX5, "erase", "()I"⟩
abbrev cX5_nextToken : ByteArray := prog_7_method_12_code
def yX5_nextToken : MethodName := ⟨RX5, "nextToken", "()V"⟩
abbrev cX5_fails : ByteArray := prog_7_method_13_code
def yX5_fails : MethodName := ⟨RX5, "fails", "()Z"⟩
abbrev cX5_isNumber : ByteArray := prog_7_method_14_code
def yX5_isNumber : MethodName := ⟨RX5, "isNumber", "(III)Z"⟩
abbrev cX5_isThingLine : ByteArray := prog_7_method_15_code
def yX5_isThingLine : MethodName := ⟨RX5, "isThingLine", "(I)Z"⟩
abbrev cX5_isLine : ByteArray := prog_7_method_16_code
def yX5_isLine : MethodName := ⟨RX5, "isLine", "(I)Z"⟩
abbrev cX5_isRead : ByteArray := prog_7_method_17_code
def yX5_isRead : MethodName := ⟨RX5, "isRead", "()Z"⟩
abbrev cX5_fault : ByteArray := prog_7_method_18_code
def yX5_fault : MethodName := ⟨RX5, "fault", "()I"⟩
abbrev cX5_doLine : ByteArray := prog_7_method_19_code
def yX5_doLine : MethodName := ⟨RX5, "doLine", "(I)V"⟩
abbrev cX5_court : ByteArray := prog_7_method_20_code
def yX5_court : MethodName := ⟨RX5, "court", "()I"⟩
abbrev cX5_weighs : ByteArray := prog_7_method_21_code
def yX5_weighs : MethodName := ⟨RX5, "weighs", "([II)I"⟩
abbrev cX5_loadOf : ByteArray := prog_7_method_22_code
def yX5_loadOf : MethodName := ⟨RX5, "loadOf", "([II)I"⟩
abbrev cX5_isThere : ByteArray := prog_7_method_23_code
def yX5_isThere : MethodName := ⟨RX5, "isThere", "([II)Z"⟩
abbrev cX5_priceOf : ByteArray := prog_7_method_24_code
def yX5_priceOf : MethodName := ⟨RX5, "priceOf", "([II)I"⟩
abbrev cX5_pricesOf : ByteArray := prog_7_method_25_code
def yX5_pricesOf : MethodName := ⟨RX5, "pricesOf", "([I)I"⟩
abbrev cX5_thing : ByteArray := prog_7_method_26_code
def yX5_thing : MethodName := ⟨RX5, "thing", "(II)I"⟩
abbrev cX5_as : ByteArray := prog_7_method_27_code
def yX5_as : MethodName := ⟨RX5, "as", "(II)I"⟩
abbrev cX5_isTask : ByteArray := prog_7_method_28_code
def yX5_isTask : MethodName := ⟨RX5, "isTask", "(I)Z"⟩
abbrev cX5_toolOf : ByteArray := prog_7_method_29_code
def yX5_toolOf : MethodName := ⟨RX5, "toolOf", "(I)I"⟩
abbrev cX5_floor : ByteArray := prog_7_method_30_code
def yX5_floor : MethodName := ⟨RX5, "floor", "(II)I"⟩
abbrev cX5_handBehind : ByteArray := prog_7_method_31_code
def yX5_handBehind : MethodName := ⟨RX5, "handBehind", "(I)I"⟩
abbrev cX5_handIn : ByteArray := prog_7_method_32_code
def yX5_handIn : MethodName := ⟨RX5, "handIn", "(II)I"⟩
abbrev cX5_hand : ByteArray := prog_7_method_33_code
def yX5_hand : MethodName := ⟨RX5, "hand", "(I)I"⟩
abbrev cX5_note : ByteArray := prog_7_method_34_code
def yX5_note : MethodName := ⟨RX5, "note", "()V"⟩
abbrev cX5_copy : ByteArray := prog_7_method_35_code
def yX5_copy : MethodName := ⟨RX5, "copy", "([II[II)V"⟩
abbrev cX5_touches : ByteArray := prog_7_method_36_code
def yX5_touches : MethodName := ⟨RX5, "touches", "(I)V"⟩
abbrev cX5_pass : ByteArray := prog_7_method_37_code
def yX5_pass : MethodName := ⟨RX5, "pass", "([I)V"⟩
abbrev cX5_touch : ByteArray := prog_7_method_38_code
def yX5_touch : MethodName := ⟨RX5, "touch", "(I)I"⟩
abbrev cX5_isBy : ByteArray := prog_7_method_39_code
def yX5_isBy : MethodName := ⟨RX5, "isBy", "(II)Z"⟩
abbrev cX5_by : ByteArray := prog_7_method_40_code
def yX5_by : MethodName := ⟨RX5, "by", "(II)I"⟩
abbrev cX5_eat : ByteArray := prog_7_method_41_code
def yX5_eat : MethodName := ⟨RX5, "eat", "(II)I"⟩
abbrev cX5_bathe : ByteArray := prog_7_method_42_code
def yX5_bathe : MethodName := ⟨RX5, "bathe", "()I"⟩
abbrev cX5_idle : ByteArray := prog_7_method_43_code
def yX5_idle : MethodName := ⟨RX5, "idle", "()I"⟩
abbrev cX5_undo : ByteArray := prog_7_method_44_code
def yX5_undo : MethodName := ⟨RX5, "undo", "()I"⟩
abbrev cX5_keep : ByteArray := prog_7_method_45_code
def yX5_keep : MethodName := ⟨RX5, "keep", "(I)I"⟩
abbrev cX5_back : ByteArray := prog_7_method_46_code
def yX5_back : MethodName := ⟨RX5, "back", "(I)I"⟩
abbrev cX5_tooLoaded : ByteArray := prog_7_method_47_code
def yX5_tooLoaded : MethodName := ⟨RX5, "tooLoaded", "([I)I"⟩
abbrev cX5_town : ByteArray := prog_7_method_48_code
def yX5_town : MethodName := ⟨RX5, "town", "(II)I"⟩
abbrev cX5_put : ByteArray := prog_7_method_49_code
def yX5_put : MethodName := ⟨RX5, "put", "(I)I"⟩
abbrev cX5_wipe : ByteArray := prog_7_method_50_code
def yX5_wipe : MethodName := ⟨RX5, "wipe", "()I"⟩
abbrev cX5_goes : ByteArray := prog_7_method_51_code
def yX5_goes : MethodName := ⟨RX5, "goes", "(I)I"⟩
abbrev cX5_task : ByteArray := prog_7_method_52_code
def yX5_task : MethodName := ⟨RX5, "task", "(I)I"⟩
abbrev cX5_drop : ByteArray := prog_7_method_53_code
def yX5_drop : MethodName := ⟨RX5, "drop", "()I"⟩
abbrev cX5_placeOf : ByteArray := prog_7_method_54_code
def yX5_placeOf : MethodName := ⟨RX5, "placeOf", "(IIII)I"⟩
abbrev cX5_goldBy : ByteArray := prog_7_method_55_code
def yX5_goldBy : MethodName := ⟨RX5, "goldBy", "(IIII)I"⟩
abbrev cX5_costBy : ByteArray := prog_7_method_56_code
def yX5_costBy : MethodName := ⟨RX5, "costBy", "(III)I"⟩
abbrev cX5_canDo : ByteArray := prog_7_method_57_code
def yX5_canDo : MethodName := ⟨RX5, "canDo", "(III)Z"⟩
abbrev cX5_behind : ByteArray := prog_7_method_58_code
def yX5_behind : MethodName := ⟨RX5, "behind", "(IIIII)I"⟩
abbrev cX5_costOf : ByteArray := prog_7_method_59_code
def yX5_costOf : MethodName := ⟨RX5, "costOf", "(IIII)I"⟩
abbrev cX5_deedAt : ByteArray := prog_7_method_60_code
def yX5_deedAt : MethodName := ⟨RX5, "deedAt", "(I)I"⟩
abbrev cX5_layPlans : ByteArray := prog_7_method_61_code
def yX5_layPlans : MethodName := ⟨RX5, "layPlans", "()V"⟩
abbrev cX5_plan : ByteArray := prog_7_method_62_code
def yX5_plan : MethodName := ⟨RX5, "plan", "(I)I"⟩
abbrev cX5_pricesIn : ByteArray := prog_7_method_63_code
def yX5_pricesIn : MethodName := ⟨RX5, "pricesIn", "(I)I"⟩
abbrev cX5_price : ByteArray := prog_7_method_64_code
def yX5_price : MethodName := ⟨RX5, "price", "(I)I"⟩
abbrev cX5_sell : ByteArray := prog_7_method_65_code
def yX5_sell : MethodName := ⟨RX5, "sell", "(I)I"⟩
abbrev cX5_lootOf : ByteArray := prog_7_method_66_code
def yX5_lootOf : MethodName := ⟨RX5, "lootOf", "(II)I"⟩
abbrev cX5_thief : ByteArray := prog_7_method_67_code
def yX5_thief : MethodName := ⟨RX5, "thief", "(I)I"⟩
abbrev cX5_look : ByteArray := prog_7_method_68_code
def yX5_look : MethodName := ⟨RX5, "look", "(III)I"⟩
abbrev cX5_forget : ByteArray := prog_7_method_69_code
def yX5_forget : MethodName := ⟨RX5, "forget", "()I"⟩
abbrev cX5_isGold : ByteArray := prog_7_method_70_code
def yX5_isGold : MethodName := ⟨RX5, "isGold", "(II)Z"⟩
abbrev cX5_fit : ByteArray := prog_7_method_71_code
def yX5_fit : MethodName := ⟨RX5, "fit", "(I)I"⟩
abbrev cX5_baths : ByteArray := prog_7_method_72_code
def yX5_baths : MethodName := ⟨RX5, "baths", "(II)I"⟩
abbrev cX5_slips : ByteArray := prog_7_method_73_code
def yX5_slips : MethodName := ⟨RX5, "slips", "(IIII)J"⟩
abbrev cX5_count : ByteArray := prog_7_method_74_code
def yX5_count : MethodName := ⟨RX5, "count", "(I)I"⟩
def RJ6 : String := "java/lang/Integer"
def TJ6 : u_T := fun k => match k with
  | _ => ("", "", "", false)
def tyJ6 : Nat → FieldType := fun k => match k with
  | _ => .int
abbrev cJ6_bitCount_0f7a4 : ByteArray := prog_8_method_49_code
def yJ6_bitCount_0f7a4 : MethodName := ⟨RJ6, "bitCount", "(I)I"⟩
def RJ9 : String := "java/lang/Math"
def TJ9 : u_T := fun k => match k with
  | _ => ("", "", "", false)
def tyJ9 : Nat → FieldType := fun k => match k with
  | _ => .int
abbrev cJ9_max_7cf53 : ByteArray := prog_9_method_65_code
def yJ9_max_7cf53 : MethodName := ⟨RJ9, "max", "(II)I"⟩
def RJ0 : String := "java/lang/String"
def TJ0 : u_T := fun k => match k with
  | _ => ("", "", "", false)
def tyJ0 : Nat → FieldType := fun k => match k with
  | _ => .int
abbrev cJ0_length_8abf5 : ByteArray := prog_10_method_54_code
def yJ0_length_8abf5 : MethodName := ⟨RJ0, "length", "()I"⟩
abbrev cJ0_charAt_5068e : ByteArray := prog_10_method_56_code
def yJ0_charAt_5068e : MethodName := ⟨RJ0, "charAt", "(I)C"⟩
abbrev cJ0_coder_7d493 : ByteArray := prog_10_method_152_code
def yJ0_coder_7d493 : MethodName := ⟨RJ0, "coder", "()B"⟩
abbrev cJ0_isLatin1_aae02 : ByteArray := prog_10_method_154_code
def yJ0_isLatin1_aae02 : MethodName := ⟨RJ0, "isLatin1", "()Z"⟩
abbrev cJ0_checkIndex_df160 : ByteArray := prog_10_method_155_code
def yJ0_checkIndex_df160 : MethodName := ⟨RJ0, "checkIndex", "(II)V"⟩
def RJ1 : String := "java/lang/StringLatin1"
def TJ1 : u_T := fun k => match k with
  | _ => ("", "", "", false)
def tyJ1 : Nat → FieldType := fun k => match k with
  | _ => .int
abbrev cJ1_charAt_3b067 : ByteArray := prog_11_method_2_code
def yJ1_charAt_3b067 : MethodName := ⟨RJ1, "charAt", "([BI)C"⟩
def RJ2 : String := "java/lang/StringUTF16"
def TJ2 : u_T := fun k => match k with
  | _ => ("", "", "", false)
def tyJ2 : Nat → FieldType := fun k => match k with
  | _ => .int
abbrev cJ2_getChar_3b067 : ByteArray := prog_12_method_5_code
def yJ2_getChar_3b067 : MethodName := ⟨RJ2, "getChar", "([BI)C"⟩
abbrev cJ2_length_9d52b : ByteArray := prog_12_method_6_code
def yJ2_length_9d52b : MethodName := ⟨RJ2, "length", "([B)I"⟩
abbrev cJ2_charAt_3b067 : ByteArray := prog_12_method_83_code
def yJ2_charAt_3b067 : MethodName := ⟨RJ2, "charAt", "([BI)C"⟩
abbrev cJ2_checkIndex_2214a : ByteArray := prog_12_method_91_code
def yJ2_checkIndex_2214a : MethodName := ⟨RJ2, "checkIndex", "(I[B)V"⟩
def RJ3 : String := "jdk/internal/util/Preconditions"
def TJ3 : u_T := fun k => match k with
  | _ => ("", "", "", false)
def tyJ3 : Nat → FieldType := fun k => match k with
  | _ => .int
abbrev cJ3_checkIndex_8e157 : ByteArray := prog_13_method_11_code
def yJ3_checkIndex_8e157 : MethodName := ⟨RJ3, "checkIndex", "(IILjava/util/function/BiFunction;)I"⟩
def RL : String := "GoldTouchLaw"
abbrev cL_law : ByteArray := code
def yL_law : MethodName := ⟨RL, "law", "([I)Z"⟩
abbrev vwCl : List vw_C := [(RX0, TX0, 9), (RX1, TX1, 6), (RX2, TX2, 5), (RX3, TX3, 6), (RX4, TX4, 17), (RX5, TX5, 33)]
