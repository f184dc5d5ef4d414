section
-- ===== PART A: goes FIRST, ahead of the names: the tables' words, and 'selects' of the private methods out of them =====
/-- a private method of a class that the tables say can be made, by its rows of tables_1 -/
def lw_okq (q : MethodName × Nat) : Prop := (q.1.cls ≠ "java/lang/invoke/MethodHandle" ∧ q.1.cls ≠ "java/lang/invoke/VarHandle") ∧ Cond.instantiable q.1.cls q.2 ∈ tables_1 ∧ Cond.privateMethod q.1 ∈ tables_1 ∧ Cond.instanceMethod q.1 ∈ tables_1
theorem lw_p0 : lw_okq (⟨"GoldTouch$Reader", "nextToken", "()V"⟩, 6) := ⟨⟨by decide +kernel, by decide +kernel⟩, List.mem_of_getElem? (i := 82) (by decide +kernel), List.mem_of_getElem? (i := 242) (by decide +kernel), List.mem_of_getElem? (i := 243) (by decide +kernel)⟩
theorem lw_p1 : lw_okq (⟨"GoldTouch$Reader", "letterAt", "(I)I"⟩, 6) := ⟨⟨by decide +kernel, by decide +kernel⟩, List.mem_of_getElem? (i := 82) (by decide +kernel), List.mem_of_getElem? (i := 246) (by decide +kernel), List.mem_of_getElem? (i := 247) (by decide +kernel)⟩
theorem lw_p2 : lw_okq (⟨"GoldTouch$Reader", "readClause", "(LGoldTouch$Court;)Z"⟩, 6) := ⟨⟨by decide +kernel, by decide +kernel⟩, List.mem_of_getElem? (i := 82) (by decide +kernel), List.mem_of_getElem? (i := 256) (by decide +kernel), List.mem_of_getElem? (i := 257) (by decide +kernel)⟩
theorem lw_p3 : lw_okq (⟨"GoldTouch$Reader", "readWord", "()I"⟩, 6) := ⟨⟨by decide +kernel, by decide +kernel⟩, List.mem_of_getElem? (i := 82) (by decide +kernel), List.mem_of_getElem? (i := 260) (by decide +kernel), List.mem_of_getElem? (i := 261) (by decide +kernel)⟩
theorem lw_p4 : lw_okq (⟨"GoldTouch$Reader", "isToken", "(Ljava/lang/String;)Z"⟩, 6) := ⟨⟨by decide +kernel, by decide +kernel⟩, List.mem_of_getElem? (i := 82) (by decide +kernel), List.mem_of_getElem? (i := 278) (by decide +kernel), List.mem_of_getElem? (i := 279) (by decide +kernel)⟩
theorem lw_p5 : lw_okq (⟨"GoldTouch$Reader", "readNumber", "()I"⟩, 6) := ⟨⟨by decide +kernel, by decide +kernel⟩, List.mem_of_getElem? (i := 82) (by decide +kernel), List.mem_of_getElem? (i := 332) (by decide +kernel), List.mem_of_getElem? (i := 333) (by decide +kernel)⟩
theorem lw_p6 : lw_okq (⟨"GoldTouch$Reader", "doClause", "(LGoldTouch$Court;I)V"⟩, 6) := ⟨⟨by decide +kernel, by decide +kernel⟩, List.mem_of_getElem? (i := 82) (by decide +kernel), List.mem_of_getElem? (i := 342) (by decide +kernel), List.mem_of_getElem? (i := 343) (by decide +kernel)⟩
theorem lw_p7 : lw_okq (⟨"GoldTouch", "startDay", "()V"⟩, 17) := ⟨⟨by decide +kernel, by decide +kernel⟩, List.mem_of_getElem? (i := 14) (by decide +kernel), List.mem_of_getElem? (i := 362) (by decide +kernel), List.mem_of_getElem? (i := 363) (by decide +kernel)⟩
theorem lw_p8 : lw_okq (⟨"GoldTouch", "isThing", "(I)Z"⟩, 17) := ⟨⟨by decide +kernel, by decide +kernel⟩, List.mem_of_getElem? (i := 14) (by decide +kernel), List.mem_of_getElem? (i := 374) (by decide +kernel), List.mem_of_getElem? (i := 375) (by decide +kernel)⟩
theorem lw_p9 : lw_okq (⟨"GoldTouch", "doTouching", "(I)I"⟩, 17) := ⟨⟨by decide +kernel, by decide +kernel⟩, List.mem_of_getElem? (i := 14) (by decide +kernel), List.mem_of_getElem? (i := 433) (by decide +kernel), List.mem_of_getElem? (i := 434) (by decide +kernel)⟩
theorem lw_p10 : lw_okq (⟨"GoldTouch", "remember", "()V"⟩, 17) := ⟨⟨by decide +kernel, by decide +kernel⟩, List.mem_of_getElem? (i := 14) (by decide +kernel), List.mem_of_getElem? (i := 437) (by decide +kernel), List.mem_of_getElem? (i := 438) (by decide +kernel)⟩
theorem lw_p11 : lw_okq (⟨"GoldTouch", "servesAsTool", "(II)Z"⟩, 17) := ⟨⟨by decide +kernel, by decide +kernel⟩, List.mem_of_getElem? (i := 14) (by decide +kernel), List.mem_of_getElem? (i := 459) (by decide +kernel), List.mem_of_getElem? (i := 460) (by decide +kernel)⟩
theorem lw_p12 : lw_okq (⟨"GoldTouch", "doEating", "(II)I"⟩, 17) := ⟨⟨by decide +kernel, by decide +kernel⟩, List.mem_of_getElem? (i := 14) (by decide +kernel), List.mem_of_getElem? (i := 467) (by decide +kernel), List.mem_of_getElem? (i := 468) (by decide +kernel)⟩
theorem lw_p13 : lw_okq (⟨"GoldTouch", "townThings", "()I"⟩, 17) := ⟨⟨by decide +kernel, by decide +kernel⟩, List.mem_of_getElem? (i := 14) (by decide +kernel), List.mem_of_getElem? (i := 495) (by decide +kernel), List.mem_of_getElem? (i := 496) (by decide +kernel)⟩
theorem lw_p14 : lw_okq (⟨"GoldTouch$Planner", "search", "(LGoldTouch$Court;IIIIII)V"⟩, 5) := ⟨⟨by decide +kernel, by decide +kernel⟩, List.mem_of_getElem? (i := 145) (by decide +kernel), List.mem_of_getElem? (i := 550) (by decide +kernel), List.mem_of_getElem? (i := 551) (by decide +kernel)⟩
theorem lw_p15 : lw_okq (⟨"GoldTouch$Planner", "take", "(III)V"⟩, 5) := ⟨⟨by decide +kernel, by decide +kernel⟩, List.mem_of_getElem? (i := 145) (by decide +kernel), List.mem_of_getElem? (i := 558) (by decide +kernel), List.mem_of_getElem? (i := 559) (by decide +kernel)⟩
def lw_privs_1 : List (MethodName × Nat) := [(⟨"GoldTouch$Reader", "nextToken", "()V"⟩, 6), (⟨"GoldTouch$Reader", "letterAt", "(I)I"⟩, 6), (⟨"GoldTouch$Reader", "readClause", "(LGoldTouch$Court;)Z"⟩, 6), (⟨"GoldTouch$Reader", "readWord", "()I"⟩, 6), (⟨"GoldTouch$Reader", "isToken", "(Ljava/lang/String;)Z"⟩, 6), (⟨"GoldTouch$Reader", "readNumber", "()I"⟩, 6), (⟨"GoldTouch$Reader", "doClause", "(LGoldTouch$Court;I)V"⟩, 6), (⟨"GoldTouch", "startDay", "()V"⟩, 17), (⟨"GoldTouch", "isThing", "(I)Z"⟩, 17), (⟨"GoldTouch", "doTouching", "(I)I"⟩, 17), (⟨"GoldTouch", "remember", "()V"⟩, 17), (⟨"GoldTouch", "servesAsTool", "(II)Z"⟩, 17), (⟨"GoldTouch", "doEating", "(II)I"⟩, 17), (⟨"GoldTouch", "townThings", "()I"⟩, 17), (⟨"GoldTouch$Planner", "search", "(LGoldTouch$Court;IIIIII)V"⟩, 5), (⟨"GoldTouch$Planner", "take", "(III)V"⟩, 5)]
theorem lw_r1 : ∀ q ∈ lw_privs_1, lw_okq q := List.forall_mem_cons.mpr ⟨lw_p0, List.forall_mem_cons.mpr ⟨lw_p1, List.forall_mem_cons.mpr ⟨lw_p2, List.forall_mem_cons.mpr ⟨lw_p3, List.forall_mem_cons.mpr ⟨lw_p4, List.forall_mem_cons.mpr ⟨lw_p5, List.forall_mem_cons.mpr ⟨lw_p6, List.forall_mem_cons.mpr ⟨lw_p7, List.forall_mem_cons.mpr ⟨lw_p8, List.forall_mem_cons.mpr ⟨lw_p9, List.forall_mem_cons.mpr ⟨lw_p10, List.forall_mem_cons.mpr ⟨lw_p11, List.forall_mem_cons.mpr ⟨lw_p12, List.forall_mem_cons.mpr ⟨lw_p13, List.forall_mem_cons.mpr ⟨lw_p14, List.forall_mem_cons.mpr ⟨lw_p15, fun _ h => absurd h List.not_mem_nil⟩⟩⟩⟩⟩⟩⟩⟩⟩⟩⟩⟩⟩⟩⟩⟩
theorem lw_p16 : lw_okq (⟨"GoldTouch", "isRest", "(II)Z"⟩, 17) := ⟨⟨by decide +kernel, by decide +kernel⟩, List.mem_of_getElem? (i := 14) (by decide +kernel), List.mem_of_getElem? (i := 578) (by decide +kernel), List.mem_of_getElem? (i := 579) (by decide +kernel)⟩
theorem lw_p17 : lw_okq (⟨"GoldTouch", "thiefGain", "(II)I"⟩, 17) := ⟨⟨by decide +kernel, by decide +kernel⟩, List.mem_of_getElem? (i := 14) (by decide +kernel), List.mem_of_getElem? (i := 582) (by decide +kernel), List.mem_of_getElem? (i := 583) (by decide +kernel)⟩
theorem lw_p18 : lw_okq (⟨"GoldTouch", "goldEnd", "(I)I"⟩, 17) := ⟨⟨by decide +kernel, by decide +kernel⟩, List.mem_of_getElem? (i := 14) (by decide +kernel), List.mem_of_getElem? (i := 601) (by decide +kernel), List.mem_of_getElem? (i := 602) (by decide +kernel)⟩
theorem lw_p19 : lw_okq (⟨"GoldTouch", "fitsSeen", "(III)Z"⟩, 17) := ⟨⟨by decide +kernel, by decide +kernel⟩, List.mem_of_getElem? (i := 14) (by decide +kernel), List.mem_of_getElem? (i := 605) (by decide +kernel), List.mem_of_getElem? (i := 606) (by decide +kernel)⟩
theorem lw_p20 : lw_okq (⟨"GoldTouch", "cleanAnyway", "()I"⟩, 17) := ⟨⟨by decide +kernel, by decide +kernel⟩, List.mem_of_getElem? (i := 14) (by decide +kernel), List.mem_of_getElem? (i := 614) (by decide +kernel), List.mem_of_getElem? (i := 615) (by decide +kernel)⟩
theorem lw_p21 : lw_okq (⟨"GoldTouch", "cleanBehind", "(I)I"⟩, 17) := ⟨⟨by decide +kernel, by decide +kernel⟩, List.mem_of_getElem? (i := 14) (by decide +kernel), List.mem_of_getElem? (i := 618) (by decide +kernel), List.mem_of_getElem? (i := 619) (by decide +kernel)⟩
theorem lw_p22 : lw_okq (⟨"GoldTouchModel", "plain", "()V"⟩, 33) := ⟨⟨by decide +kernel, by decide +kernel⟩, List.mem_of_getElem? (i := 637) (by decide +kernel), List.mem_of_getElem? (i := 643) (by decide +kernel), List.mem_of_getElem? (i := 644) (by decide +kernel)⟩
theorem lw_p23 : lw_okq (⟨"GoldTouchModel", "begin", "()V"⟩, 33) := ⟨⟨by decide +kernel, by decide +kernel⟩, List.mem_of_getElem? (i := 637) (by decide +kernel), List.mem_of_getElem? (i := 647) (by decide +kernel), List.mem_of_getElem? (i := 648) (by decide +kernel)⟩
theorem lw_p24 : lw_okq (⟨"GoldTouchModel", "isRead", "()Z"⟩, 33) := ⟨⟨by decide +kernel, by decide +kernel⟩, List.mem_of_getElem? (i := 637) (by decide +kernel), List.mem_of_getElem? (i := 767) (by decide +kernel), List.mem_of_getElem? (i := 768) (by decide +kernel)⟩
theorem lw_p25 : lw_okq (⟨"GoldTouchModel", "isLine", "(I)Z"⟩, 33) := ⟨⟨by decide +kernel, by decide +kernel⟩, List.mem_of_getElem? (i := 637) (by decide +kernel), List.mem_of_getElem? (i := 771) (by decide +kernel), List.mem_of_getElem? (i := 772) (by decide +kernel)⟩
theorem lw_p26 : lw_okq (⟨"GoldTouchModel", "nextToken", "()V"⟩, 33) := ⟨⟨by decide +kernel, by decide +kernel⟩, List.mem_of_getElem? (i := 637) (by decide +kernel), List.mem_of_getElem? (i := 775) (by decide +kernel), List.mem_of_getElem? (i := 776) (by decide +kernel)⟩
theorem lw_p27 : lw_okq (⟨"GoldTouchModel", "isThingLine", "(I)Z"⟩, 33) := ⟨⟨by decide +kernel, by decide +kernel⟩, List.mem_of_getElem? (i := 637) (by decide +kernel), List.mem_of_getElem? (i := 796) (by decide +kernel), List.mem_of_getElem? (i := 797) (by decide +kernel)⟩
theorem lw_p28 : lw_okq (⟨"GoldTouchModel", "fails", "()Z"⟩, 33) := ⟨⟨by decide +kernel, by decide +kernel⟩, List.mem_of_getElem? (i := 637) (by decide +kernel), List.mem_of_getElem? (i := 800) (by decide +kernel), List.mem_of_getElem? (i := 801) (by decide +kernel)⟩
theorem lw_p29 : lw_okq (⟨"GoldTouchModel", "isNumber", "(III)Z"⟩, 33) := ⟨⟨by decide +kernel, by decide +kernel⟩, List.mem_of_getElem? (i := 637) (by decide +kernel), List.mem_of_getElem? (i := 804) (by decide +kernel), List.mem_of_getElem? (i := 805) (by decide +kernel)⟩
theorem lw_p30 : lw_okq (⟨"GoldTouchModel", "doLine", "(I)V"⟩, 33) := ⟨⟨by decide +kernel, by decide +kernel⟩, List.mem_of_getElem? (i := 637) (by decide +kernel), List.mem_of_getElem? (i := 812) (by decide +kernel), List.mem_of_getElem? (i := 813) (by decide +kernel)⟩
theorem lw_p31 : lw_okq (⟨"GoldTouchModel", "isThing", "(I)Z"⟩, 33) := ⟨⟨by decide +kernel, by decide +kernel⟩, List.mem_of_getElem? (i := 637) (by decide +kernel), List.mem_of_getElem? (i := 820) (by decide +kernel), List.mem_of_getElem? (i := 821) (by decide +kernel)⟩
def lw_privs_2 : List (MethodName × Nat) := [(⟨"GoldTouch", "isRest", "(II)Z"⟩, 17), (⟨"GoldTouch", "thiefGain", "(II)I"⟩, 17), (⟨"GoldTouch", "goldEnd", "(I)I"⟩, 17), (⟨"GoldTouch", "fitsSeen", "(III)Z"⟩, 17), (⟨"GoldTouch", "cleanAnyway", "()I"⟩, 17), (⟨"GoldTouch", "cleanBehind", "(I)I"⟩, 17), (⟨"GoldTouchModel", "plain", "()V"⟩, 33), (⟨"GoldTouchModel", "begin", "()V"⟩, 33), (⟨"GoldTouchModel", "isRead", "()Z"⟩, 33), (⟨"GoldTouchModel", "isLine", "(I)Z"⟩, 33), (⟨"GoldTouchModel", "nextToken", "()V"⟩, 33), (⟨"GoldTouchModel", "isThingLine", "(I)Z"⟩, 33), (⟨"GoldTouchModel", "fails", "()Z"⟩, 33), (⟨"GoldTouchModel", "isNumber", "(III)Z"⟩, 33), (⟨"GoldTouchModel", "doLine", "(I)V"⟩, 33), (⟨"GoldTouchModel", "isThing", "(I)Z"⟩, 33)]
theorem lw_r2 : ∀ q ∈ lw_privs_2, lw_okq q := List.forall_mem_cons.mpr ⟨lw_p16, List.forall_mem_cons.mpr ⟨lw_p17, List.forall_mem_cons.mpr ⟨lw_p18, List.forall_mem_cons.mpr ⟨lw_p19, List.forall_mem_cons.mpr ⟨lw_p20, List.forall_mem_cons.mpr ⟨lw_p21, List.forall_mem_cons.mpr ⟨lw_p22, List.forall_mem_cons.mpr ⟨lw_p23, List.forall_mem_cons.mpr ⟨lw_p24, List.forall_mem_cons.mpr ⟨lw_p25, List.forall_mem_cons.mpr ⟨lw_p26, List.forall_mem_cons.mpr ⟨lw_p27, List.forall_mem_cons.mpr ⟨lw_p28, List.forall_mem_cons.mpr ⟨lw_p29, List.forall_mem_cons.mpr ⟨lw_p30, List.forall_mem_cons.mpr ⟨lw_p31, fun _ h => absurd h List.not_mem_nil⟩⟩⟩⟩⟩⟩⟩⟩⟩⟩⟩⟩⟩⟩⟩⟩
theorem lw_p32 : lw_okq (⟨"GoldTouchModel", "priceOf", "([II)I"⟩, 33) := ⟨⟨by decide +kernel, by decide +kernel⟩, List.mem_of_getElem? (i := 637) (by decide +kernel), List.mem_of_getElem? (i := 824) (by decide +kernel), List.mem_of_getElem? (i := 825) (by decide +kernel)⟩
theorem lw_p33 : lw_okq (⟨"GoldTouchModel", "isThere", "([II)Z"⟩, 33) := ⟨⟨by decide +kernel, by decide +kernel⟩, List.mem_of_getElem? (i := 637) (by decide +kernel), List.mem_of_getElem? (i := 828) (by decide +kernel), List.mem_of_getElem? (i := 829) (by decide +kernel)⟩
theorem lw_p34 : lw_okq (⟨"GoldTouchModel", "floorOf", "(I)I"⟩, 33) := ⟨⟨by decide +kernel, by decide +kernel⟩, List.mem_of_getElem? (i := 637) (by decide +kernel), List.mem_of_getElem? (i := 835) (by decide +kernel), List.mem_of_getElem? (i := 836) (by decide +kernel)⟩
theorem lw_p35 : lw_okq (⟨"GoldTouchModel", "kindOf", "(I)I"⟩, 33) := ⟨⟨by decide +kernel, by decide +kernel⟩, List.mem_of_getElem? (i := 637) (by decide +kernel), List.mem_of_getElem? (i := 843) (by decide +kernel), List.mem_of_getElem? (i := 844) (by decide +kernel)⟩
theorem lw_p36 : lw_okq (⟨"GoldTouchModel", "weighs", "([II)I"⟩, 33) := ⟨⟨by decide +kernel, by decide +kernel⟩, List.mem_of_getElem? (i := 637) (by decide +kernel), List.mem_of_getElem? (i := 847) (by decide +kernel), List.mem_of_getElem? (i := 848) (by decide +kernel)⟩
theorem lw_p37 : lw_okq (⟨"GoldTouchModel", "loadOf", "([II)I"⟩, 33) := ⟨⟨by decide +kernel, by decide +kernel⟩, List.mem_of_getElem? (i := 637) (by decide +kernel), List.mem_of_getElem? (i := 855) (by decide +kernel), List.mem_of_getElem? (i := 856) (by decide +kernel)⟩
theorem lw_p38 : lw_okq (⟨"GoldTouchModel", "toolOf", "(I)I"⟩, 33) := ⟨⟨by decide +kernel, by decide +kernel⟩, List.mem_of_getElem? (i := 637) (by decide +kernel), List.mem_of_getElem? (i := 859) (by decide +kernel), List.mem_of_getElem? (i := 860) (by decide +kernel)⟩
theorem lw_p39 : lw_okq (⟨"GoldTouchModel", "isTask", "(I)Z"⟩, 33) := ⟨⟨by decide +kernel, by decide +kernel⟩, List.mem_of_getElem? (i := 637) (by decide +kernel), List.mem_of_getElem? (i := 863) (by decide +kernel), List.mem_of_getElem? (i := 864) (by decide +kernel)⟩
theorem lw_p40 : lw_okq (⟨"GoldTouchModel", "handIn", "(II)I"⟩, 33) := ⟨⟨by decide +kernel, by decide +kernel⟩, List.mem_of_getElem? (i := 637) (by decide +kernel), List.mem_of_getElem? (i := 871) (by decide +kernel), List.mem_of_getElem? (i := 872) (by decide +kernel)⟩
theorem lw_p41 : lw_okq (⟨"GoldTouchModel", "handBehind", "(I)I"⟩, 33) := ⟨⟨by decide +kernel, by decide +kernel⟩, List.mem_of_getElem? (i := 637) (by decide +kernel), List.mem_of_getElem? (i := 875) (by decide +kernel), List.mem_of_getElem? (i := 876) (by decide +kernel)⟩
theorem lw_p42 : lw_okq (⟨"GoldTouchModel", "note", "()V"⟩, 33) := ⟨⟨by decide +kernel, by decide +kernel⟩, List.mem_of_getElem? (i := 637) (by decide +kernel), List.mem_of_getElem? (i := 883) (by decide +kernel), List.mem_of_getElem? (i := 884) (by decide +kernel)⟩
theorem lw_p43 : lw_okq (⟨"GoldTouchModel", "touches", "(I)V"⟩, 33) := ⟨⟨by decide +kernel, by decide +kernel⟩, List.mem_of_getElem? (i := 637) (by decide +kernel), List.mem_of_getElem? (i := 890) (by decide +kernel), List.mem_of_getElem? (i := 891) (by decide +kernel)⟩
theorem lw_p44 : lw_okq (⟨"GoldTouchModel", "pass", "([I)V"⟩, 33) := ⟨⟨by decide +kernel, by decide +kernel⟩, List.mem_of_getElem? (i := 637) (by decide +kernel), List.mem_of_getElem? (i := 894) (by decide +kernel), List.mem_of_getElem? (i := 895) (by decide +kernel)⟩
theorem lw_p45 : lw_okq (⟨"GoldTouchModel", "isBy", "(II)Z"⟩, 33) := ⟨⟨by decide +kernel, by decide +kernel⟩, List.mem_of_getElem? (i := 637) (by decide +kernel), List.mem_of_getElem? (i := 902) (by decide +kernel), List.mem_of_getElem? (i := 903) (by decide +kernel)⟩
theorem lw_p46 : lw_okq (⟨"GoldTouchModel", "tooLoaded", "([I)I"⟩, 33) := ⟨⟨by decide +kernel, by decide +kernel⟩, List.mem_of_getElem? (i := 637) (by decide +kernel), List.mem_of_getElem? (i := 934) (by decide +kernel), List.mem_of_getElem? (i := 935) (by decide +kernel)⟩
theorem lw_p47 : lw_okq (⟨"GoldTouchModel", "pricesOf", "([I)I"⟩, 33) := ⟨⟨by decide +kernel, by decide +kernel⟩, List.mem_of_getElem? (i := 637) (by decide +kernel), List.mem_of_getElem? (i := 938) (by decide +kernel), List.mem_of_getElem? (i := 939) (by decide +kernel)⟩
def lw_privs_3 : List (MethodName × Nat) := [(⟨"GoldTouchModel", "priceOf", "([II)I"⟩, 33), (⟨"GoldTouchModel", "isThere", "([II)Z"⟩, 33), (⟨"GoldTouchModel", "floorOf", "(I)I"⟩, 33), (⟨"GoldTouchModel", "kindOf", "(I)I"⟩, 33), (⟨"GoldTouchModel", "weighs", "([II)I"⟩, 33), (⟨"GoldTouchModel", "loadOf", "([II)I"⟩, 33), (⟨"GoldTouchModel", "toolOf", "(I)I"⟩, 33), (⟨"GoldTouchModel", "isTask", "(I)Z"⟩, 33), (⟨"GoldTouchModel", "handIn", "(II)I"⟩, 33), (⟨"GoldTouchModel", "handBehind", "(I)I"⟩, 33), (⟨"GoldTouchModel", "note", "()V"⟩, 33), (⟨"GoldTouchModel", "touches", "(I)V"⟩, 33), (⟨"GoldTouchModel", "pass", "([I)V"⟩, 33), (⟨"GoldTouchModel", "isBy", "(II)Z"⟩, 33), (⟨"GoldTouchModel", "tooLoaded", "([I)I"⟩, 33), (⟨"GoldTouchModel", "pricesOf", "([I)I"⟩, 33)]
theorem lw_r3 : ∀ q ∈ lw_privs_3, lw_okq q := List.forall_mem_cons.mpr ⟨lw_p32, List.forall_mem_cons.mpr ⟨lw_p33, List.forall_mem_cons.mpr ⟨lw_p34, List.forall_mem_cons.mpr ⟨lw_p35, List.forall_mem_cons.mpr ⟨lw_p36, List.forall_mem_cons.mpr ⟨lw_p37, List.forall_mem_cons.mpr ⟨lw_p38, List.forall_mem_cons.mpr ⟨lw_p39, List.forall_mem_cons.mpr ⟨lw_p40, List.forall_mem_cons.mpr ⟨lw_p41, List.forall_mem_cons.mpr ⟨lw_p42, List.forall_mem_cons.mpr ⟨lw_p43, List.forall_mem_cons.mpr ⟨lw_p44, List.forall_mem_cons.mpr ⟨lw_p45, List.forall_mem_cons.mpr ⟨lw_p46, List.forall_mem_cons.mpr ⟨lw_p47, fun _ h => absurd h List.not_mem_nil⟩⟩⟩⟩⟩⟩⟩⟩⟩⟩⟩⟩⟩⟩⟩⟩
theorem lw_p48 : lw_okq (⟨"GoldTouchModel", "layPlans", "()V"⟩, 33) := ⟨⟨by decide +kernel, by decide +kernel⟩, List.mem_of_getElem? (i := 637) (by decide +kernel), List.mem_of_getElem? (i := 966) (by decide +kernel), List.mem_of_getElem? (i := 967) (by decide +kernel)⟩
theorem lw_p49 : lw_okq (⟨"GoldTouchModel", "canDo", "(III)Z"⟩, 33) := ⟨⟨by decide +kernel, by decide +kernel⟩, List.mem_of_getElem? (i := 637) (by decide +kernel), List.mem_of_getElem? (i := 973) (by decide +kernel), List.mem_of_getElem? (i := 974) (by decide +kernel)⟩
theorem lw_p50 : lw_okq (⟨"GoldTouchModel", "behind", "(IIIII)I"⟩, 33) := ⟨⟨by decide +kernel, by decide +kernel⟩, List.mem_of_getElem? (i := 637) (by decide +kernel), List.mem_of_getElem? (i := 977) (by decide +kernel), List.mem_of_getElem? (i := 978) (by decide +kernel)⟩
theorem lw_p51 : lw_okq (⟨"GoldTouchModel", "goldBy", "(IIII)I"⟩, 33) := ⟨⟨by decide +kernel, by decide +kernel⟩, List.mem_of_getElem? (i := 637) (by decide +kernel), List.mem_of_getElem? (i := 981) (by decide +kernel), List.mem_of_getElem? (i := 982) (by decide +kernel)⟩
theorem lw_p52 : lw_okq (⟨"GoldTouchModel", "costOf", "(IIII)I"⟩, 33) := ⟨⟨by decide +kernel, by decide +kernel⟩, List.mem_of_getElem? (i := 637) (by decide +kernel), List.mem_of_getElem? (i := 988) (by decide +kernel), List.mem_of_getElem? (i := 989) (by decide +kernel)⟩
theorem lw_p53 : lw_okq (⟨"GoldTouchModel", "costBy", "(III)I"⟩, 33) := ⟨⟨by decide +kernel, by decide +kernel⟩, List.mem_of_getElem? (i := 637) (by decide +kernel), List.mem_of_getElem? (i := 992) (by decide +kernel), List.mem_of_getElem? (i := 993) (by decide +kernel)⟩
theorem lw_p54 : lw_okq (⟨"GoldTouchModel", "pricesIn", "(I)I"⟩, 33) := ⟨⟨by decide +kernel, by decide +kernel⟩, List.mem_of_getElem? (i := 637) (by decide +kernel), List.mem_of_getElem? (i := 1000) (by decide +kernel), List.mem_of_getElem? (i := 1001) (by decide +kernel)⟩
theorem lw_p55 : lw_okq (⟨"GoldTouchModel", "lootOf", "(II)I"⟩, 33) := ⟨⟨by decide +kernel, by decide +kernel⟩, List.mem_of_getElem? (i := 637) (by decide +kernel), List.mem_of_getElem? (i := 1012) (by decide +kernel), List.mem_of_getElem? (i := 1013) (by decide +kernel)⟩
theorem lw_p56 : lw_okq (⟨"GoldTouchModel", "isGold", "(II)Z"⟩, 33) := ⟨⟨by decide +kernel, by decide +kernel⟩, List.mem_of_getElem? (i := 637) (by decide +kernel), List.mem_of_getElem? (i := 1028) (by decide +kernel), List.mem_of_getElem? (i := 1029) (by decide +kernel)⟩
def lw_privs_4 : List (MethodName × Nat) := [(⟨"GoldTouchModel", "layPlans", "()V"⟩, 33), (⟨"GoldTouchModel", "canDo", "(III)Z"⟩, 33), (⟨"GoldTouchModel", "behind", "(IIIII)I"⟩, 33), (⟨"GoldTouchModel", "goldBy", "(IIII)I"⟩, 33), (⟨"GoldTouchModel", "costOf", "(IIII)I"⟩, 33), (⟨"GoldTouchModel", "costBy", "(III)I"⟩, 33), (⟨"GoldTouchModel", "pricesIn", "(I)I"⟩, 33), (⟨"GoldTouchModel", "lootOf", "(II)I"⟩, 33), (⟨"GoldTouchModel", "isGold", "(II)Z"⟩, 33)]
theorem lw_r4 : ∀ q ∈ lw_privs_4, lw_okq q := List.forall_mem_cons.mpr ⟨lw_p48, List.forall_mem_cons.mpr ⟨lw_p49, List.forall_mem_cons.mpr ⟨lw_p50, List.forall_mem_cons.mpr ⟨lw_p51, List.forall_mem_cons.mpr ⟨lw_p52, List.forall_mem_cons.mpr ⟨lw_p53, List.forall_mem_cons.mpr ⟨lw_p54, List.forall_mem_cons.mpr ⟨lw_p55, List.forall_mem_cons.mpr ⟨lw_p56, fun _ h => absurd h List.not_mem_nil⟩⟩⟩⟩⟩⟩⟩⟩⟩
def lw_privs : List (MethodName × Nat) := lw_privs_1 ++ (lw_privs_2 ++ (lw_privs_3 ++ (lw_privs_4)))
def lw_tbl : List Cond := k2_sels lw_privs ++ tables_1
theorem lw_privs_ok : ∀ q ∈ lw_privs, lw_okq q := by
  show ∀ q ∈ lw_privs_1 ++ (lw_privs_2 ++ (lw_privs_3 ++ (lw_privs_4))), lw_okq q
  exact List.forall_mem_append.mpr ⟨lw_r1, List.forall_mem_append.mpr ⟨lw_r2, List.forall_mem_append.mpr ⟨lw_r3, lw_r4⟩⟩⟩
def RX0 : String := "GoldTouch$Court"
def TX0 : u_T := fun k => match k with
  | 0 => ("GoldTouch$Court", "kind", "[I", true)
  | 1 => ("GoldTouch$Court", "weight", "[I", true)
  | 2 => ("GoldTouch$Court", "worth", "[I", true)
  | 3 => ("GoldTouch$Court", "place", "[I", true)
  | 4 => ("GoldTouch$Court", "bears", "[I", true)
  | 5 => ("GoldTouch$Court", "things", "I", false)
  | 6 => ("GoldTouch$Court", "wash", "I", false)
  | 7 => ("GoldTouch$Court", "chill", "I", false)
  | _ => ("GoldTouch$Court", "noon", "I", false)
def tyX0 : Nat → FieldType := fun k => match k with
  | 0 => .array .int
  | 1 => .array .int
  | 2 => .array .int
  | 3 => .array .int
  | 4 => .array .int
  | 5 => .int
  | 6 => .int
  | 7 => .int
  | _ => .int
abbrev wsX00 : List Cond := u_ws RX0 TX0 9
theorem nmX0 : ∀ a, a < 9 → ∀ b, b < 9 → a ≠ b → (TX0 a).2.1 ≠ (TX0 b).2.1 := by decide +kernel
theorem tyX0_ok : ∀ k, k < 9 → parseFieldDescriptor (TX0 k).2.2.1 = some (tyX0 k) := by decide +kernel
abbrev cX0_init : ByteArray := prog_2_method_1_code
def yX0_init : MethodName := ⟨RX0, "<init>", "()V"⟩
abbrev cX0_reset : ByteArray := prog_2_method_2_code
def yX0_reset : MethodName := ⟨RX0, "reset", "()V"⟩
abbrev cX0_copyFrom : ByteArray := prog_2_method_3_code
def yX0_copyFrom : MethodName := ⟨RX0, "copyFrom", "(LGoldTouch$Court;)V"⟩
abbrev cX0_addThing : ByteArray := prog_2_method_4_code
def yX0_addThing : MethodName := ⟨RX0, "addThing", "(IIII)V"⟩
def RX1 : String := "GoldTouch$Day"
def TX1 : u_T := fun k => match k with
  | 0 => ("GoldTouch$Day", "minute", "I", false)
  | 1 => ("GoldTouch$Day", "baths", "I", false)
  | 2 => ("GoldTouch$Day", "tillNoon", "I", false)
  | 3 => ("GoldTouch$Day", "forEver", "I", false)
  | 4 => ("GoldTouch$Day", "eaten", "I", false)
  | _ => ("GoldTouch$Day", "broken", "I", false)
def tyX1 : Nat → FieldType := fun k => match k with
  | 0 => .int
  | 1 => .int
  | 2 => .int
  | 3 => .int
  | 4 => .int
  | _ => .int
abbrev wsX10 : List Cond := u_ws RX1 TX1 6
theorem nmX1 : ∀ a, a < 6 → ∀ b, b < 6 → a ≠ b → (TX1 a).2.1 ≠ (TX1 b).2.1 := by decide +kernel
theorem tyX1_ok : ∀ k, k < 6 → parseFieldDescriptor (TX1 k).2.2.1 = some (tyX1 k) := by decide +kernel
abbrev cX1_init : ByteArray := prog_3_method_1_code
def yX1_init : MethodName := ⟨RX1, "<init>", "()V"⟩
abbrev cX1_clear : ByteArray := prog_3_method_2_code
def yX1_clear : MethodName := ⟨RX1, "clear", "()V"⟩
abbrev cX1_copyFrom : ByteArray := prog_3_method_3_code
def yX1_copyFrom : MethodName := ⟨RX1, "copyFrom", "(LGoldTouch$Day;)V"⟩
abbrev cX1_goldOf : ByteArray := prog_3_method_4_code
def yX1_goldOf : MethodName := ⟨RX1, "goldOf", "(I)I"⟩
abbrev cX1_isLost : ByteArray := prog_3_method_5_code
def yX1_isLost : MethodName := ⟨RX1, "isLost", "(LGoldTouch$Court;I)Z"⟩
abbrev cX1_weighs : ByteArray := prog_3_method_6_code
def yX1_weighs : MethodName := ⟨RX1, "weighs", "(LGoldTouch$Court;I)I"⟩
abbrev cX1_loadOf : ByteArray := prog_3_method_7_code
def yX1_loadOf : MethodName := ⟨RX1, "loadOf", "(LGoldTouch$Court;I)I"⟩
abbrev cX1_firstOverloaded : ByteArray := prog_3_method_8_code
def yX1_firstOverloaded : MethodName := ⟨RX1, "firstOverloaded", "(LGoldTouch$Court;)I"⟩
abbrev cX1_priceOf : ByteArray := prog_3_method_9_code
def yX1_priceOf : MethodName := ⟨RX1, "priceOf", "(LGoldTouch$Court;I)I"⟩
abbrev cX1_prices : ByteArray := prog_3_method_10_code
def yX1_prices : MethodName := ⟨RX1, "prices", "(LGoldTouch$Court;)I"⟩
abbrev cX1_openGates : ByteArray := prog_3_method_11_code
def yX1_openGates : MethodName := ⟨RX1, "openGates", "(LGoldTouch$Court;)I"⟩
abbrev cX1_toolOf : ByteArray := prog_3_method_12_code
def yX1_toolOf : MethodName := ⟨RX1, "toolOf", "(LGoldTouch$Court;II)I"⟩
abbrev cX1_gild : ByteArray := prog_3_method_13_code
def yX1_gild : MethodName := ⟨RX1, "gild", "(LGoldTouch$Court;I)V"⟩
abbrev cX1_pass : ByteArray := prog_3_method_14_code
def yX1_pass : MethodName := ⟨RX1, "pass", "(LGoldTouch$Court;)V"⟩
def RX2 : String := "GoldTouch$Planner"
def TX2 : u_T := fun k => match k with
  | 0 => ("GoldTouch$Planner", "cost", "I", false)
  | 1 => ("GoldTouch$Planner", "end", "I", false)
  | 2 => ("GoldTouch$Planner", "first", "I", false)
  | 3 => ("GoldTouch$Planner", "best", "I", false)
  | _ => ("GoldTouch$Planner", "tools", "[I", true)
def tyX2 : Nat → FieldType := fun k => match k with
  | 0 => .int
  | 1 => .int
  | 2 => .int
  | 3 => .int
  | _ => .array .int
abbrev wsX20 : List Cond := u_ws RX2 TX2 5
theorem nmX2 : ∀ a, a < 5 → ∀ b, b < 5 → a ≠ b → (TX2 a).2.1 ≠ (TX2 b).2.1 := by decide +kernel
theorem tyX2_ok : ∀ k, k < 5 → parseFieldDescriptor (TX2 k).2.2.1 = some (tyX2 k) := by decide +kernel
abbrev cX2_init : ByteArray := prog_4_method_1_code
def yX2_init : MethodName := ⟨RX2, "<init>", "()V"⟩
abbrev cX2_findWay : ByteArray := prog_4_method_2_code
def yX2_findWay : MethodName := ⟨RX2, "findWay", "(LGoldTouch$Court;LGoldTouch$Day;I)Z"⟩
abbrev cX2_search : ByteArray := prog_4_method_3_code
def yX2_search : MethodName := ⟨RX2, "search", "(LGoldTouch$Court;IIIIII)V"⟩
abbrev cX2_firstOf : ByteArray := prog_4_method_4_code
def yX2_firstOf : MethodName := ⟨RX2, "firstOf", "(II)I"⟩
abbrev cX2_rankOf : ByteArray := prog_4_method_5_code
def yX2_rankOf : MethodName := ⟨RX2, "rankOf", "(II)I"⟩
abbrev cX2_take : ByteArray := prog_4_method_6_code
def yX2_take : MethodName := ⟨RX2, "take", "(III)V"⟩
def RX3 : String := "GoldTouch$Reader"
def TX3 : u_T := fun k => match k with
  | 0 => ("GoldTouch$Reader", "letters", "[I", true)
  | 1 => ("GoldTouch$Reader", "length", "I", false)
  | 2 => ("GoldTouch$Reader", "clauses", "I", false)
  | 3 => ("GoldTouch$Reader", "tokenStart", "I", false)
  | 4 => ("GoldTouch$Reader", "tokenEnd", "I", false)
  | _ => ("GoldTouch$Reader", "numbers", "[I", true)
def tyX3 : Nat → FieldType := fun k => match k with
  | 0 => .array .int
  | 1 => .int
  | 2 => .int
  | 3 => .int
  | 4 => .int
  | _ => .array .int
abbrev wsX30 : List Cond := u_ws RX3 TX3 6
theorem nmX3 : ∀ a, a < 6 → ∀ b, b < 6 → a ≠ b → (TX3 a).2.1 ≠ (TX3 b).2.1 := by decide +kernel
theorem tyX3_ok : ∀ k, k < 6 → parseFieldDescriptor (TX3 k).2.2.1 = some (tyX3 k) := by decide +kernel
abbrev cX3_init : ByteArray := prog_5_method_1_code
def yX3_init : MethodName := ⟨RX3, "<init>", "()V"⟩
abbrev cX3_readOnto : ByteArray := prog_5_method_2_code
def yX3_readOnto : MethodName := ⟨RX3, "readOnto", "(LGoldTouch$Court;)I"⟩
abbrev cX3_readClause : ByteArray := prog_5_method_3_code
def yX3_readClause : MethodName := ⟨RX3, "readClause", "(LGoldTouch$Court;)Z"⟩
abbrev cX3_doClause : ByteArray := prog_5_method_4_code
def yX3_doClause : MethodName := ⟨RX3, "doClause", "(LGoldTouch$Court;I)V"⟩
abbrev cX3_setBears : ByteArray := prog_5_method_5_code
def yX3_setBears : MethodName := ⟨RX3, "setBears", "(LGoldTouch$Court;II)V"⟩
abbrev cX3_leastOf : ByteArray := prog_5_method_6_code
def yX3_leastOf : MethodName := ⟨RX3, "leastOf", "(II)I"⟩
abbrev cX3_mostOf : ByteArray := prog_5_method_7_code
def yX3_mostOf : MethodName := ⟨RX3, "mostOf", "(II)I"⟩
abbrev cX3_wordText : ByteArray := prog_5_method_8_code
def yX3_wordText : MethodName := ⟨RX3, "wordText", "(I)Ljava/lang/String;"⟩
abbrev cX3_readWord : ByteArray := prog_5_method_9_code
def yX3_readWord : MethodName := ⟨RX3, "readWord", "()I"⟩
abbrev cX3_isToken : ByteArray := prog_5_method_10_code
def yX3_isToken : MethodName := ⟨RX3, "isToken", "(Ljava/lang/String;)Z"⟩
abbrev cX3_readNumber : ByteArray := prog_5_method_11_code
def yX3_readNumber : MethodName := ⟨RX3, "readNumber", "()I"⟩
abbrev cX3_nextToken : ByteArray := prog_5_method_12_code
def yX3_nextToken : MethodName := ⟨RX3, "nextToken", "()V"⟩
abbrev cX3_letterAt : ByteArray := prog_5_method_13_code
def yX3_letterAt : MethodName := ⟨RX3, "letterAt", "(I)I"⟩
abbrev cX3_isSmall : ByteArray := prog_5_method_14_code
def yX3_isSmall : MethodName := ⟨RX3, "isSmall", "(I)Z"⟩
abbrev cX3_isDigit : ByteArray := prog_5_method_15_code
def yX3_isDigit : MethodName := ⟨RX3, "isDigit", "(I)Z"⟩
def RX4 : String := "GoldTouch"
def TX4 : u_T := fun k => match k with
  | 0 => ("GoldTouch", "court", "LGoldTouch$Court;", true)
  | 1 => ("GoldTouch", "draft", "LGoldTouch$Court;", true)
  | 2 => ("GoldTouch", "text", "LGoldTouch$Reader;", true)
  | 3 => ("GoldTouch", "day", "LGoldTouch$Day;", true)
  | 4 => ("GoldTouch", "ahead", "LGoldTouch$Day;", true)
  | 5 => ("GoldTouch", "past", "[LGoldTouch$Day;", true)
  | 6 => ("GoldTouch", "pastCount", "I", false)
  | 7 => ("GoldTouch", "kept", "[LGoldTouch$Day;", true)
  | 8 => ("GoldTouch", "keptBits", "I", false)
  | 9 => ("GoldTouch", "row", "[I", true)
  | 10 => ("GoldTouch", "rowCount", "I", false)
  | 11 => ("GoldTouch", "taskBits", "I", false)
  | 12 => ("GoldTouch", "planner", "LGoldTouch$Planner;", true)
  | 13 => ("GoldTouch", "seenThing", "[I", true)
  | 14 => ("GoldTouch", "seenMinute", "[I", true)
  | 15 => ("GoldTouch", "seenGold", "[I", true)
  | _ => ("GoldTouch", "seenCount", "I", false)
def tyX4 : Nat → FieldType := fun k => match k with
  | 0 => .object "GoldTouch$Court"
  | 1 => .object "GoldTouch$Court"
  | 2 => .object "GoldTouch$Reader"
  | 3 => .object "GoldTouch$Day"
  | 4 => .object "GoldTouch$Day"
  | 5 => .array (.object "GoldTouch$Day")
  | 6 => .int
  | 7 => .array (.object "GoldTouch$Day")
  | 8 => .int
  | 9 => .array .int
  | 10 => .int
  | 11 => .int
  | 12 => .object "GoldTouch$Planner"
  | 13 => .array .int
  | 14 => .array .int
  | 15 => .array .int
  | _ => .int
abbrev wsX40 : List Cond := u_ws RX4 TX4 17
theorem nmX4 : ∀ a, a < 17 → ∀ b, b < 17 → a ≠ b → (TX4 a).2.1 ≠ (TX4 b).2.1 := by decide +kernel
theorem tyX4_ok : ∀ k, k < 17 → parseFieldDescriptor (TX4 k).2.2.1 = some (tyX4 k) := by decide +kernel
abbrev cX4_init : ByteArray := prog_1_method_1_code
def yX4_init : MethodName := ⟨RX4, "<init>", "()V"⟩
abbrev cX4_write : ByteArray := prog_1_method_2_code
def yX4_write : MethodName := ⟨RX4, "write", "(I)I"⟩
abbrev cX4_erase : ByteArray := prog_1_method_3_code
def yX4_erase : MethodName := ⟨RX4, "erase", "()I"⟩
abbrev cX4_fault : ByteArray := prog_1_method_4_code
def yX4_fault : MethodName := ⟨RX4, "fault", "()I"⟩
abbrev cX4_court : ByteArray := prog_1_method_5_code
def yX4_court : MethodName := ⟨RX4, "court", "()I"⟩
abbrev cX4_thing : ByteArray := prog_1_method_6_code
def yX4_thing : MethodName := ⟨RX4, "thing", "(II)I"⟩
abbrev cX4_as : ByteArray := prog_1_method_7_code
def yX4_as : MethodName := ⟨RX4, "as", "(II)I"⟩
abbrev cX4_floor : ByteArray := prog_1_method_8_code
def yX4_floor : MethodName := ⟨RX4, "floor", "(II)I"⟩
abbrev cX4_hand : ByteArray := prog_1_method_9_code
def yX4_hand : MethodName := ⟨RX4, "hand", "(I)I"⟩
abbrev cX4_touch : ByteArray := prog_1_method_10_code
def yX4_touch : MethodName := ⟨RX4, "touch", "(I)I"⟩
abbrev cX4_by : ByteArray := prog_1_method_11_code
def yX4_by : MethodName := ⟨RX4, "by", "(II)I"⟩
abbrev cX4_eat : ByteArray := prog_1_method_12_code
def yX4_eat : MethodName := ⟨RX4, "eat", "(II)I"⟩
abbrev cX4_bathe : ByteArray := prog_1_method_13_code
def yX4_bathe : MethodName := ⟨RX4, "bathe", "()I"⟩
abbrev cX4_idle : ByteArray := prog_1_method_14_code
def yX4_idle : MethodName := ⟨RX4, "idle", "()I"⟩
abbrev cX4_undo : ByteArray := prog_1_method_15_code
def yX4_undo : MethodName := ⟨RX4, "undo", "()I"⟩
abbrev cX4_keep : ByteArray := prog_1_method_16_code
def yX4_keep : MethodName := ⟨RX4, "keep", "(I)I"⟩
abbrev cX4_back : ByteArray := prog_1_method_17_code
def yX4_back : MethodName := ⟨RX4, "back", "(I)I"⟩
abbrev cX4_town : ByteArray := prog_1_method_18_code
def yX4_town : MethodName := ⟨RX4, "town", "(II)I"⟩
abbrev cX4_put : ByteArray := prog_1_method_19_code
def yX4_put : MethodName := ⟨RX4, "put", "(I)I"⟩
abbrev cX4_wipe : ByteArray := prog_1_method_20_code
def yX4_wipe : MethodName := ⟨RX4, "wipe", "()I"⟩
abbrev cX4_goes : ByteArray := prog_1_method_21_code
def yX4_goes : MethodName := ⟨RX4, "goes", "(I)I"⟩
abbrev cX4_task : ByteArray := prog_1_method_22_code
def yX4_task : MethodName := ⟨RX4, "task", "(I)I"⟩
abbrev cX4_drop : ByteArray := prog_1_method_23_code
def yX4_drop : MethodName := ⟨RX4, "drop", "()I"⟩
abbrev cX4_plan : ByteArray := prog_1_method_24_code
def yX4_plan : MethodName := ⟨RX4, "plan", "(I)I"⟩
abbrev cX4_price : ByteArray := prog_1_method_25_code
def yX4_price : MethodName := ⟨RX4, "price", "(I)I"⟩
abbrev cX4_sell : ByteArray := prog_1_method_26_code
def yX4_sell : MethodName := ⟨RX4, "sell", "(I)I"⟩
abbrev cX4_thief : ByteArray := prog_1_method_27_code
def yX4_thief : MethodName := ⟨RX4, "thief", "(I)I"⟩
abbrev cX4_look : ByteArray := prog_1_method_28_code
def yX4_look : MethodName := ⟨RX4, "look", "(III)I"⟩
abbrev cX4_forget : ByteArray := prog_1_method_29_code
def yX4_forget : MethodName := ⟨RX4, "forget", "()I"⟩
abbrev cX4_fit : ByteArray := prog_1_method_30_code
def yX4_fit : MethodName := ⟨RX4, "fit", "(I)I"⟩
abbrev cX4_baths : ByteArray := prog_1_method_31_code
def yX4_baths : MethodName := ⟨RX4, "baths", "(II)I"⟩
abbrev cX4_slips : ByteArray := prog_1_method_32_code
def yX4_slips : MethodName := ⟨RX4, "slips", "(IIII)J"⟩
abbrev cX4_count : ByteArray := prog_1_method_33_code
def yX4_count : MethodName := ⟨RX4, "count", "(I)I"⟩
abbrev cX4_hasBit : ByteArray := prog_1_method_34_code
def yX4_hasBit : MethodName := ⟨RX4, "hasBit", "(II)Z"⟩
abbrev cX4_isThing : ByteArray := prog_1_method_35_code
def yX4_isThing : MethodName := ⟨RX4, "isThing", "(I)Z"⟩
abbrev cX4_isUnder : ByteArray := prog_1_method_36_code
def yX4_isUnder : MethodName := ⟨RX4, "isUnder", "(II)Z"⟩
abbrev cX4_handIn : ByteArray := prog_1_method_37_code
def yX4_handIn : MethodName := ⟨RX4, "handIn", "(LGoldTouch$Court;II)I"⟩
abbrev cX4_startDay : ByteArray := prog_1_method_38_code
def yX4_startDay : MethodName := ⟨RX4, "startDay", "()V"⟩
abbrev cX4_servesAsTool : ByteArray := prog_1_method_39_code
def yX4_servesAsTool : MethodName := ⟨RX4, "servesAsTool", "(II)Z"⟩
abbrev cX4_remember : ByteArray := prog_1_method_40_code
def yX4_remember : MethodName := ⟨RX4, "remember", "()V"⟩
abbrev cX4_doTouching : ByteArray := prog_1_method_41_code
def yX4_doTouching : MethodName := ⟨RX4, "doTouching", "(I)I"⟩
abbrev cX4_doEating : ByteArray := prog_1_method_42_code
def yX4_doEating : MethodName := ⟨RX4, "doEating", "(II)I"⟩
abbrev cX4_townThings : ByteArray := prog_1_method_43_code
def yX4_townThings : MethodName := ⟨RX4, "townThings", "()I"⟩
abbrev cX4_thiefGain : ByteArray := prog_1_method_44_code
def yX4_thiefGain : MethodName := ⟨RX4, "thiefGain", "(II)I"⟩
abbrev cX4_isRest : ByteArray := prog_1_method_45_code
def yX4_isRest : MethodName := ⟨RX4, "isRest", "(II)Z"⟩
abbrev cX4_goldEnd : ByteArray := prog_1_method_46_code
def yX4_goldEnd : MethodName := ⟨RX4, "goldEnd", "(I)I"⟩
abbrev cX4_fitsSeen : ByteArray := prog_1_method_47_code
def yX4_fitsSeen : MethodName := ⟨RX4, "fitsSeen", "(III)Z"⟩
abbrev cX4_cleanAnyway : ByteArray := prog_1_method_48_code
def yX4_cleanAnyway : MethodName := ⟨RX4, "cleanAnyway", "()I"⟩
abbrev cX4_cleanBehind : ByteArray := prog_1_method_49_code
def yX4_cleanBehind : MethodName := ⟨RX4, "cleanBehind", "(I)I"⟩
abbrev cX4_power : ByteArray := prog_1_method_50_code
def yX4_power : MethodName := ⟨RX4, "power", "(II)J"⟩
abbrev cX4_commonDivisor : ByteArray := prog_1_method_51_code
def yX4_commonDivisor : MethodName := ⟨RX4, "commonDivisor", "(JJ)J"⟩
def RX5 : String := "GoldTouchModel"
def TX5 : u_T := fun k => match k with
  | 0 => ("GoldTouchModel", "things", "I", false)
  | 1 => ("GoldTouchModel", "thing", "[I", true)
  | 2 => ("GoldTouchModel", "bears", "[I", true)
  | 3 => ("GoldTouchModel", "wash", "I", false)
  | 4 => ("GoldTouchModel", "chill", "I", false)
  | 5 => ("GoldTouchModel", "noon", "I", false)
  | 6 => ("GoldTouchModel", "letters", "I", false)
  | 7 => ("GoldTouchModel", "text", "[I", true)
  | 8 => ("GoldTouchModel", "position", "I", false)
  | 9 => ("GoldTouchModel", "tokenAt", "I", false)
  | 10 => ("GoldTouchModel", "token", "J", false)
  | 11 => ("GoldTouchModel", "digits", "I", false)
  | 12 => ("GoldTouchModel", "number", "I", false)
  | 13 => ("GoldTouchModel", "faultAt", "I", false)
  | 14 => ("GoldTouchModel", "readMany", "I", false)
  | 15 => ("GoldTouchModel", "readThings", "I", false)
  | 16 => ("GoldTouchModel", "read", "[I", true)
  | 17 => ("GoldTouchModel", "now", "[I", true)
  | 18 => ("GoldTouchModel", "tried", "[I", true)
  | 19 => ("GoldTouchModel", "image", "[I", true)
  | 20 => ("GoldTouchModel", "isKept", "[Z", true)
  | 21 => ("GoldTouchModel", "backOf", "[I", true)
  | 22 => ("GoldTouchModel", "backs", "I", false)
  | 23 => ("GoldTouchModel", "row", "[I", true)
  | 24 => ("GoldTouchModel", "rowMany", "I", false)
  | 25 => ("GoldTouchModel", "tasks", "[I", true)
  | 26 => ("GoldTouchModel", "taskMany", "I", false)
  | 27 => ("GoldTouchModel", "sight", "[I", true)
  | 28 => ("GoldTouchModel", "sights", "I", false)
  | 29 => ("GoldTouchModel", "cost", "[I", true)
  | 30 => ("GoldTouchModel", "last", "[I", true)
  | 31 => ("GoldTouchModel", "tools", "[I", true)
  | _ => ("GoldTouchModel", "turned", "I", false)
def tyX5 : Nat → FieldType := fun k => match k with
  | 0 => .int
  | 1 => .array .int
  | 2 => .array .int
  | 3 => .int
  | 4 => .int
  | 5 => .int
  | 6 => .int
  | 7 => .array .int
  | 8 => .int
  | 9 => .int
  | 10 => .long
  | 11 => .int
  | 12 => .int
  | 13 => .int
  | 14 => .int
  | 15 => .int
  | 16 => .array .int
  | 17 => .array .int
  | 18 => .array .int
  | 19 => .array .int
  | 20 => .array .boolean
  | 21 => .array .int
  | 22 => .int
  | 23 => .array .int
  | 24 => .int
  | 25 => .array .int
  | 26 => .int
  | 27 => .array .int
  | 28 => .int
  | 29 => .array .int
  | 30 => .array .int
  | 31 => .array .int
  | _ => .int
abbrev wsX50 : List Cond := u_ws RX5 TX5 33
theorem nmX5 : ∀ a, a < 33 → ∀ b, b < 33 → a ≠ b → (TX5 a).2.1 ≠ (TX5 b).2.1 := by decide +kernel
theorem tyX5_ok : ∀ k, k < 33 → parseFieldDescriptor (TX5 k).2.2.1 = some (tyX5 k) := by decide +kernel
abbrev cX5_init : ByteArray := prog_7_method_1_code
def yX5_init : MethodName := ⟨RX5, "<init>", "()V"⟩
abbrev cX5_in : ByteArray := prog_7_method_2_code
def yX5_in : MethodName := ⟨RX5, "in", "(III)Z"⟩
abbrev cX5_has : ByteArray := prog_7_method_3_code
def yX5_has : MethodName := ⟨RX5, "has", "(II)Z"⟩
abbrev cX5_bits : ByteArray := prog_7_method_4_code
def yX5_bits : MethodName := ⟨RX5, "bits", "(I)I"⟩
abbrev cX5_plain : ByteArray := prog_7_method_5_code
def yX5_plain : MethodName := ⟨RX5, "plain", "()V"⟩
abbrev cX5_begin : ByteArray := prog_7_method_6_code
def yX5_begin : MethodName := ⟨RX5, "begin", "()V"⟩
abbrev cX5_kindOf : ByteArray := prog_7_method_7_code
def yX5_kindOf : MethodName := ⟨RX5, "kindOf", "(I)I"⟩
abbrev cX5_floorOf : ByteArray := prog_7_method_8_code
def yX5_floorOf : MethodName := ⟨RX5, "floorOf", "(I)I"⟩
abbrev cX5_isThing : ByteArray := prog_7_method_9_code
def yX5_isThing : MethodName := ⟨RX5, "isThing", "(I)Z"⟩
abbrev cX5_write : ByteArray := prog_7_method_10_code
def yX5_write : MethodName := ⟨RX5, "write", "(I)I"⟩
abbrev cX5_erase : ByteArray := prog_7_method_11_code
def yX5_erase : MethodName := ⟨RX5, "erase", "()I"⟩
abbrev cX5_nextToken : ByteArray := prog_7_method_12_code
def yX5_nextToken : MethodName := ⟨RX5, "nextToken", "()V"⟩
abbrev cX5_fails : ByteArray := prog_7_method_13_code
def yX5_fails : MethodName := ⟨RX5, "fails", "()Z"⟩
abbrev cX5_isNumber : ByteArray := prog_7_method_14_code
def yX5_isNumber : MethodName := ⟨RX5, "isNumber", "(III)Z"⟩
abbrev cX5_isThingLine : ByteArray := prog_7_method_15_code
def yX5_isThingLine : MethodName := ⟨RX5, "isThingLine", "(I)Z"⟩
abbrev cX5_isLine : ByteArray := prog_7_method_16_code
def yX5_isLine : MethodName := ⟨RX5, "isLine", "(I)Z"⟩
abbrev cX5_isRead : ByteArray := prog_7_method_17_code
def yX5_isRead : MethodName := ⟨RX5, "isRead", "()Z"⟩
abbrev cX5_fault : ByteArray := prog_7_method_18_code
def yX5_fault : MethodName := ⟨RX5, "fault", "()I"⟩
abbrev cX5_doLine : ByteArray := prog_7_method_19_code
def yX5_doLine : MethodName := ⟨RX5, "doLine", "(I)V"⟩
abbrev cX5_court : ByteArray := prog_7_method_20_code
def yX5_court : MethodName := ⟨RX5, "court", "()I"⟩
abbrev cX5_weighs : ByteArray := prog_7_method_21_code
def yX5_weighs : MethodName := ⟨RX5, "weighs", "([II)I"⟩
abbrev cX5_loadOf : ByteArray := prog_7_method_22_code
def yX5_loadOf : MethodName := ⟨RX5, "loadOf", "([II)I"⟩
abbrev cX5_isThere : ByteArray := prog_7_method_23_code
def yX5_isThere : MethodName := ⟨RX5, "isThere", "([II)Z"⟩
abbrev cX5_priceOf : ByteArray := prog_7_method_24_code
def yX5_priceOf : MethodName := ⟨RX5, "priceOf", "([II)I"⟩
abbrev cX5_pricesOf : ByteArray := prog_7_method_25_code
def yX5_pricesOf : MethodName := ⟨RX5, "pricesOf", "([I)I"⟩
abbrev cX5_thing : ByteArray := prog_7_method_26_code
def yX5_thing : MethodName := ⟨RX5, "thing", "(II)I"⟩
abbrev cX5_as : ByteArray := prog_7_method_27_code
def yX5_as : MethodName := ⟨RX5, "as", "(II)I"⟩
abbrev cX5_isTask : ByteArray := prog_7_method_28_code
def yX5_isTask : MethodName := ⟨RX5, "isTask", "(I)Z"⟩
abbrev cX5_toolOf : ByteArray := prog_7_method_29_code
def yX5_toolOf : MethodName := ⟨RX5, "toolOf", "(I)I"⟩
abbrev cX5_floor : ByteArray := prog_7_method_30_code
def yX5_floor : MethodName := ⟨RX5, "floor", "(II)I"⟩
abbrev cX5_handBehind : ByteArray := prog_7_method_31_code
def yX5_handBehind : MethodName := ⟨RX5, "handBehind", "(I)I"⟩
abbrev cX5_handIn : ByteArray := prog_7_method_32_code
def yX5_handIn : MethodName := ⟨RX5, "handIn", "(II)I"⟩
abbrev cX5_hand : ByteArray := prog_7_method_33_code
def yX5_hand : MethodName := ⟨RX5, "hand", "(I)I"⟩
abbrev cX5_note : ByteArray := prog_7_method_34_code
def yX5_note : MethodName := ⟨RX5, "note", "()V"⟩
abbrev cX5_copy : ByteArray := prog_7_method_35_code
def yX5_copy : MethodName := ⟨RX5, "copy", "([II[II)V"⟩
abbrev cX5_touches : ByteArray := prog_7_method_36_code
def yX5_touches : MethodName := ⟨RX5, "touches", "(I)V"⟩
abbrev cX5_pass : ByteArray := prog_7_method_37_code
def yX5_pass : MethodName := ⟨RX5, "pass", "([I)V"⟩
abbrev cX5_touch : ByteArray := prog_7_method_38_code
def yX5_touch : MethodName := ⟨RX5, "touch", "(I)I"⟩
abbrev cX5_isBy : ByteArray := prog_7_method_39_code
def yX5_isBy : MethodName := ⟨RX5, "isBy", "(II)Z"⟩
abbrev cX5_by : ByteArray := prog_7_method_40_code
def yX5_by : MethodName := ⟨RX5, "by", "(II)I"⟩
abbrev cX5_eat : ByteArray := prog_7_method_41_code
def yX5_eat : MethodName := ⟨RX5, "eat", "(II)I"⟩
abbrev cX5_bathe : ByteArray := prog_7_method_42_code
def yX5_bathe : MethodName := ⟨RX5, "bathe", "()I"⟩
abbrev cX5_idle : ByteArray := prog_7_method_43_code
def yX5_idle : MethodName := ⟨RX5, "idle", "()I"⟩
abbrev cX5_undo : ByteArray := prog_7_method_44_code
def yX5_undo : MethodName := ⟨RX5, "undo", "()I"⟩
abbrev cX5_keep : ByteArray := prog_7_method_45_code
def yX5_keep : MethodName := ⟨RX5, "keep", "(I)I"⟩
abbrev cX5_back : ByteArray := prog_7_method_46_code
def yX5_back : MethodName := ⟨RX5, "back", "(I)I"⟩
abbrev cX5_tooLoaded : ByteArray := prog_7_method_47_code
def yX5_tooLoaded : MethodName := ⟨RX5, "tooLoaded", "([I)I"⟩
abbrev cX5_town : ByteArray := prog_7_method_48_code
def yX5_town : MethodName := ⟨RX5, "town", "(II)I"⟩
abbrev cX5_put : ByteArray := prog_7_method_49_code
def yX5_put : MethodName := ⟨RX5, "put", "(I)I"⟩
abbrev cX5_wipe : ByteArray := prog_7_method_50_code
def yX5_wipe : MethodName := ⟨RX5, "wipe", "()I"⟩
abbrev cX5_goes : ByteArray := prog_7_method_51_code
def yX5_goes : MethodName := ⟨RX5, "goes", "(I)I"⟩
abbrev cX5_task : ByteArray := prog_7_method_52_code
def yX5_task : MethodName := ⟨RX5, "task", "(I)I"⟩
abbrev cX5_drop : ByteArray := prog_7_method_53_code
def yX5_drop : MethodName := ⟨RX5, "drop", "()I"⟩
abbrev cX5_placeOf : ByteArray := prog_7_method_54_code
def yX5_placeOf : MethodName := ⟨RX5, "placeOf", "(IIII)I"⟩
abbrev cX5_goldBy : ByteArray := prog_7_method_55_code
def yX5_goldBy : MethodName := ⟨RX5, "goldBy", "(IIII)I"⟩
abbrev cX5_costBy : ByteArray := prog_7_method_56_code
def yX5_costBy : MethodName := ⟨RX5, "costBy", "(III)I"⟩
abbrev cX5_canDo : ByteArray := prog_7_method_57_code
def yX5_canDo : MethodName := ⟨RX5, "canDo", "(III)Z"⟩
abbrev cX5_behind : ByteArray := prog_7_method_58_code
def yX5_behind : MethodName := ⟨RX5, "behind", "(IIIII)I"⟩
abbrev cX5_costOf : ByteArray := prog_7_method_59_code
def yX5_costOf : MethodName := ⟨RX5, "costOf", "(IIII)I"⟩
abbrev cX5_deedAt : ByteArray := prog_7_method_60_code
def yX5_deedAt : MethodName := ⟨RX5, "deedAt", "(I)I"⟩
abbrev cX5_layPlans : ByteArray := prog_7_method_61_code
def yX5_layPlans : MethodName := ⟨RX5, "layPlans", "()V"⟩
abbrev cX5_plan : ByteArray := prog_7_method_62_code
def yX5_plan : MethodName := ⟨RX5, "plan", "(I)I"⟩
abbrev cX5_pricesIn : ByteArray := prog_7_method_63_code
def yX5_pricesIn : MethodName := ⟨RX5, "pricesIn", "(I)I"⟩
abbrev cX5_price : ByteArray := prog_7_method_64_code
def yX5_price : MethodName := ⟨RX5, "price", "(I)I"⟩
abbrev cX5_sell : ByteArray := prog_7_method_65_code
def yX5_sell : MethodName := ⟨RX5, "sell", "(I)I"⟩
abbrev cX5_lootOf : ByteArray := prog_7_method_66_code
def yX5_lootOf : MethodName := ⟨RX5, "lootOf", "(II)I"⟩
abbrev cX5_thief : ByteArray := prog_7_method_67_code
def yX5_thief : MethodName := ⟨RX5, "thief", "(I)I"⟩
abbrev cX5_look : ByteArray := prog_7_method_68_code
def yX5_look : MethodName := ⟨RX5, "look", "(III)I"⟩
abbrev cX5_forget : ByteArray := prog_7_method_69_code
def yX5_forget : MethodName := ⟨RX5, "forget", "()I"⟩
abbrev cX5_isGold : ByteArray := prog_7_method_70_code
def yX5_isGold : MethodName := ⟨RX5, "isGold", "(II)Z"⟩
abbrev cX5_fit : ByteArray := prog_7_method_71_code
def yX5_fit : MethodName := ⟨RX5, "fit", "(I)I"⟩
abbrev cX5_baths : ByteArray := prog_7_method_72_code
def yX5_baths : MethodName := ⟨RX5, "baths", "(II)I"⟩
abbrev cX5_slips : ByteArray := prog_7_method_73_code
def yX5_slips : MethodName := ⟨RX5, "slips", "(IIII)J"⟩
abbrev cX5_count : ByteArray := prog_7_method_74_code
def yX5_count : MethodName := ⟨RX5, "count", "(I)I"⟩
def RJ6 : String := "java/lang/Integer"
def TJ6 : u_T := fun k => match k with
  | _ => ("", "", "", false)
def tyJ6 : Nat → FieldType := fun k => match k with
  | _ => .int
abbrev cJ6_bitCount_0f7a4 : ByteArray := prog_8_method_49_code
def yJ6_bitCount_0f7a4 : MethodName := ⟨RJ6, "bitCount", "(I)I"⟩
def RJ9 : String := "java/lang/Math"
def TJ9 : u_T := fun k => match k with
  | _ => ("", "", "", false)
def tyJ9 : Nat → FieldType := fun k => match k with
  | _ => .int
abbrev cJ9_max_7cf53 : ByteArray := prog_9_method_65_code
def yJ9_max_7cf53 : MethodName := ⟨RJ9, "max", "(II)I"⟩
def RJ0 : String := "java/lang/String"
def TJ0 : u_T := fun k => match k with
  | _ => ("", "", "", false)
def tyJ0 : Nat → FieldType := fun k => match k with
  | _ => .int
abbrev cJ0_length_8abf5 : ByteArray := prog_10_method_54_code
def yJ0_length_8abf5 : MethodName := ⟨RJ0, "length", "()I"⟩
abbrev cJ0_charAt_5068e : ByteArray := prog_10_method_56_code
def yJ0_charAt_5068e : MethodName := ⟨RJ0, "charAt", "(I)C"⟩
abbrev cJ0_coder_7d493 : ByteArray := prog_10_method_152_code
def yJ0_coder_7d493 : MethodName := ⟨RJ0, "coder", "()B"⟩
abbrev cJ0_isLatin1_aae02 : ByteArray := prog_10_method_154_code
def yJ0_isLatin1_aae02 : MethodName := ⟨RJ0, "isLatin1", "()Z"⟩
abbrev cJ0_checkIndex_df160 : ByteArray := prog_10_method_155_code
def yJ0_checkIndex_df160 : MethodName := ⟨RJ0, "checkIndex", "(II)V"⟩
def RJ1 : String := "java/lang/StringLatin1"
def TJ1 : u_T := fun k => match k with
  | _ => ("", "", "", false)
def tyJ1 : Nat → FieldType := fun k => match k with
  | _ => .int
abbrev cJ1_charAt_3b067 : ByteArray := prog_11_method_2_code
def yJ1_charAt_3b067 : MethodName := ⟨RJ1, "charAt", "([BI)C"⟩
def RJ2 : String := "java/lang/StringUTF16"
def TJ2 : u_T := fun k => match k with
  | _ => ("", "", "", false)
def tyJ2 : Nat → FieldType := fun k => match k with
  | _ => .int
abbrev cJ2_getChar_3b067 : ByteArray := prog_12_method_5_code
def yJ2_getChar_3b067 : MethodName := ⟨RJ2, "getChar", "([BI)C"⟩
abbrev cJ2_length_9d52b : ByteArray := prog_12_method_6_code
def yJ2_length_9d52b : MethodName := ⟨RJ2, "length", "([B)I"⟩
abbrev cJ2_charAt_3b067 : ByteArray := prog_12_method_83_code
def yJ2_charAt_3b067 : MethodName := ⟨RJ2, "charAt", "([BI)C"⟩
abbrev cJ2_checkIndex_2214a : ByteArray := prog_12_method_91_code
def yJ2_checkIndex_2214a : MethodName := ⟨RJ2, "checkIndex", "(I[B)V"⟩
def RJ3 : String := "jdk/internal/util/Preconditions"
def TJ3 : u_T := fun k => match k with
  | _ => ("", "", "", false)
def tyJ3 : Nat → FieldType := fun k => match k with
  | _ => .int
abbrev cJ3_checkIndex_8e157 : ByteArray := prog_13_method_11_code
def yJ3_checkIndex_8e157 : MethodName := ⟨RJ3, "checkIndex", "(IILjava/util/function/BiFunction;)I"⟩
def RL : String := "GoldTouchLaw"
abbrev cL_law : ByteArray := code
def yL_law : MethodName := ⟨RL, "law", "([I)Z"⟩
abbrev vwCl : List vw_C := [(RX0, TX0, 9), (RX1, TX1, 6), (RX2, TX2, 5), (RX3, TX3, 6), (RX4, TX4, 17), (RX5, TX5, 33)]
end
section
theorem dX0_init_0 : decode cX0_init 0 = .ok (.aload_n 0, 1) := by decide +kernel
theorem dX0_init_1 : decode cX0_init 1 = .ok (.invokespecial 3, 3) := by decide +kernel
theorem dX0_init_4 : decode cX0_init 4 = .ok (.aload_n 0, 1) := by decide +kernel
theorem dX0_init_5 : decode cX0_init 5 = .ok (.bipush 8, 2) := by decide +kernel
theorem dX0_init_7 : decode cX0_init 7 = .ok (.newarray .int, 2) := by decide +kernel
theorem dX0_init_9 : decode cX0_init 9 = .ok (.putfield 9, 3) := by decide +kernel
theorem dX0_init_12 : decode cX0_init 12 = .ok (.aload_n 0, 1) := by decide +kernel
theorem dX0_init_13 : decode cX0_init 13 = .ok (.bipush 8, 2) := by decide +kernel
theorem dX0_init_15 : decode cX0_init 15 = .ok (.newarray .int, 2) := by decide +kernel
theorem dX0_init_17 : decode cX0_init 17 = .ok (.putfield 15, 3) := by decide +kernel
theorem dX0_init_20 : decode cX0_init 20 = .ok (.aload_n 0, 1) := by decide +kernel
theorem dX0_init_21 : decode cX0_init 21 = .ok (.bipush 8, 2) := by decide +kernel
theorem dX0_init_23 : decode cX0_init 23 = .ok (.newarray .int, 2) := by decide +kernel
theorem dX0_init_25 : decode cX0_init 25 = .ok (.putfield 18, 3) := by decide +kernel
theorem dX0_init_28 : decode cX0_init 28 = .ok (.aload_n 0, 1) := by decide +kernel
theorem dX0_init_29 : decode cX0_init 29 = .ok (.bipush 8, 2) := by decide +kernel
theorem dX0_init_31 : decode cX0_init 31 = .ok (.newarray .int, 2) := by decide +kernel
theorem dX0_init_33 : decode cX0_init 33 = .ok (.putfield 21, 3) := by decide +kernel
theorem dX0_init_36 : decode cX0_init 36 = .ok (.aload_n 0, 1) := by decide +kernel
theorem dX0_init_37 : decode cX0_init 37 = .ok (.iconst 3, 1) := by decide +kernel
theorem dX0_init_38 : decode cX0_init 38 = .ok (.newarray .int, 2) := by decide +kernel
theorem dX0_init_40 : decode cX0_init 40 = .ok (.dup, 1) := by decide +kernel
theorem dX0_init_41 : decode cX0_init 41 = .ok (.iconst 0, 1) := by decide +kernel
theorem dX0_init_42 : decode cX0_init 42 = .ok (.bipush 99, 2) := by decide +kernel
theorem dX0_init_44 : decode cX0_init 44 = .ok (.iastore, 1) := by decide +kernel
theorem dX0_init_45 : decode cX0_init 45 = .ok (.dup, 1) := by decide +kernel
theorem dX0_init_46 : decode cX0_init 46 = .ok (.iconst 1, 1) := by decide +kernel
theorem dX0_init_47 : decode cX0_init 47 = .ok (.bipush 99, 2) := by decide +kernel
theorem dX0_init_49 : decode cX0_init 49 = .ok (.iastore, 1) := by decide +kernel
theorem dX0_init_50 : decode cX0_init 50 = .ok (.dup, 1) := by decide +kernel
theorem dX0_init_51 : decode cX0_init 51 = .ok (.iconst 2, 1) := by decide +kernel
theorem dX0_init_52 : decode cX0_init 52 = .ok (.bipush 99, 2) := by decide +kernel
theorem dX0_init_54 : decode cX0_init 54 = .ok (.iastore, 1) := by decide +kernel
theorem dX0_init_55 : decode cX0_init 55 = .ok (.putfield 24, 3) := by decide +kernel
theorem dX0_init_58 : decode cX0_init 58 = .ok (.aload_n 0, 1) := by decide +kernel
theorem dX0_init_59 : decode cX0_init 59 = .ok (.iconst 3, 1) := by decide +kernel
theorem dX0_init_60 : decode cX0_init 60 = .ok (.putfield 27, 3) := by decide +kernel
theorem dX0_init_63 : decode cX0_init 63 = .ok (.aload_n 0, 1) := by decide +kernel
theorem dX0_init_64 : decode cX0_init 64 = .ok (.iconst 2, 1) := by decide +kernel
theorem dX0_init_65 : decode cX0_init 65 = .ok (.putfield 31, 3) := by decide +kernel
theorem dX0_init_68 : decode cX0_init 68 = .ok (.aload_n 0, 1) := by decide +kernel
theorem dX0_init_69 : decode cX0_init 69 = .ok (.bipush 12, 2) := by decide +kernel
theorem dX0_init_71 : decode cX0_init 71 = .ok (.putfield 34, 3) := by decide +kernel
theorem dX0_init_74 : decode cX0_init 74 = .ok (.return_, 1) := by decide +kernel
theorem dX0_reset_0 : decode cX0_reset 0 = .ok (.aload_n 0, 1) := by decide +kernel
theorem dX0_reset_1 : decode cX0_reset 1 = .ok (.iconst 0, 1) := by decide +kernel
theorem dX0_reset_2 : decode cX0_reset 2 = .ok (.putfield 37, 3) := by decide +kernel
theorem dX0_reset_5 : decode cX0_reset 5 = .ok (.aload_n 0, 1) := by decide +kernel
theorem dX0_reset_6 : decode cX0_reset 6 = .ok (.iconst 3, 1) := by decide +kernel
theorem dX0_reset_7 : decode cX0_reset 7 = .ok (.putfield 27, 3) := by decide +kernel
theorem dX0_reset_10 : decode cX0_reset 10 = .ok (.aload_n 0, 1) := by decide +kernel
theorem dX0_reset_11 : decode cX0_reset 11 = .ok (.iconst 2, 1) := by decide +kernel
theorem dX0_reset_12 : decode cX0_reset 12 = .ok (.putfield 31, 3) := by decide +kernel
theorem dX0_reset_15 : decode cX0_reset 15 = .ok (.aload_n 0, 1) := by decide +kernel
theorem dX0_reset_16 : decode cX0_reset 16 = .ok (.bipush 12, 2) := by decide +kernel
theorem dX0_reset_18 : decode cX0_reset 18 = .ok (.putfield 34, 3) := by decide +kernel
theorem dX0_reset_21 : decode cX0_reset 21 = .ok (.iconst 0, 1) := by decide +kernel
theorem dX0_reset_22 : decode cX0_reset 22 = .ok (.istore_n 1, 1) := by decide +kernel
theorem dX0_reset_23 : decode cX0_reset 23 = .ok (.iload_n 1, 1) := by decide +kernel
theorem dX0_reset_24 : decode cX0_reset 24 = .ok (.iconst 3, 1) := by decide +kernel
theorem dX0_reset_25 : decode cX0_reset 25 = .ok (.if_icmp .ge 17, 3) := by decide +kernel
theorem dX0_reset_28 : decode cX0_reset 28 = .ok (.aload_n 0, 1) := by decide +kernel
theorem dX0_reset_29 : decode cX0_reset 29 = .ok (.getfield 24, 3) := by decide +kernel
theorem dX0_reset_32 : decode cX0_reset 32 = .ok (.iload_n 1, 1) := by decide +kernel
theorem dX0_reset_33 : decode cX0_reset 33 = .ok (.bipush 99, 2) := by decide +kernel
theorem dX0_reset_35 : decode cX0_reset 35 = .ok (.iastore, 1) := by decide +kernel
theorem dX0_reset_36 : decode cX0_reset 36 = .ok (.iinc 1 1, 3) := by decide +kernel
theorem dX0_reset_39 : decode cX0_reset 39 = .ok (.goto (-16), 3) := by decide +kernel
theorem dX0_reset_42 : decode cX0_reset 42 = .ok (.return_, 1) := by decide +kernel
theorem dX0_copyFrom_0 : decode cX0_copyFrom 0 = .ok (.aload_n 0, 1) := by decide +kernel
theorem dX0_copyFrom_1 : decode cX0_copyFrom 1 = .ok (.aload_n 1, 1) := by decide +kernel
theorem dX0_copyFrom_2 : decode cX0_copyFrom 2 = .ok (.getfield 37, 3) := by decide +kernel
theorem dX0_copyFrom_5 : decode cX0_copyFrom 5 = .ok (.putfield 37, 3) := by decide +kernel
theorem dX0_copyFrom_8 : decode cX0_copyFrom 8 = .ok (.aload_n 0, 1) := by decide +kernel
theorem dX0_copyFrom_9 : decode cX0_copyFrom 9 = .ok (.aload_n 1, 1) := by decide +kernel
theorem dX0_copyFrom_10 : decode cX0_copyFrom 10 = .ok (.getfield 27, 3) := by decide +kernel
theorem dX0_copyFrom_13 : decode cX0_copyFrom 13 = .ok (.putfield 27, 3) := by decide +kernel
theorem dX0_copyFrom_16 : decode cX0_copyFrom 16 = .ok (.aload_n 0, 1) := by decide +kernel
theorem dX0_copyFrom_17 : decode cX0_copyFrom 17 = .ok (.aload_n 1, 1) := by decide +kernel
theorem dX0_copyFrom_18 : decode cX0_copyFrom 18 = .ok (.getfield 31, 3) := by decide +kernel
theorem dX0_copyFrom_21 : decode cX0_copyFrom 21 = .ok (.putfield 31, 3) := by decide +kernel
theorem dX0_copyFrom_24 : decode cX0_copyFrom 24 = .ok (.aload_n 0, 1) := by decide +kernel
theorem dX0_copyFrom_25 : decode cX0_copyFrom 25 = .ok (.aload_n 1, 1) := by decide +kernel
theorem dX0_copyFrom_26 : decode cX0_copyFrom 26 = .ok (.getfield 34, 3) := by decide +kernel
theorem dX0_copyFrom_29 : decode cX0_copyFrom 29 = .ok (.putfield 34, 3) := by decide +kernel
theorem dX0_copyFrom_32 : decode cX0_copyFrom 32 = .ok (.iconst 0, 1) := by decide +kernel
theorem dX0_copyFrom_33 : decode cX0_copyFrom 33 = .ok (.istore_n 2, 1) := by decide +kernel
theorem dX0_copyFrom_34 : decode cX0_copyFrom 34 = .ok (.iload_n 2, 1) := by decide +kernel
theorem dX0_copyFrom_35 : decode cX0_copyFrom 35 = .ok (.iconst 3, 1) := by decide +kernel
theorem dX0_copyFrom_36 : decode cX0_copyFrom 36 = .ok (.if_icmp .ge 21, 3) := by decide +kernel
theorem dX0_copyFrom_39 : decode cX0_copyFrom 39 = .ok (.aload_n 0, 1) := by decide +kernel
theorem dX0_copyFrom_40 : decode cX0_copyFrom 40 = .ok (.getfield 24, 3) := by decide +kernel
theorem dX0_copyFrom_43 : decode cX0_copyFrom 43 = .ok (.iload_n 2, 1) := by decide +kernel
theorem dX0_copyFrom_44 : decode cX0_copyFrom 44 = .ok (.aload_n 1, 1) := by decide +kernel
theorem dX0_copyFrom_45 : decode cX0_copyFrom 45 = .ok (.getfield 24, 3) := by decide +kernel
theorem dX0_copyFrom_48 : decode cX0_copyFrom 48 = .ok (.iload_n 2, 1) := by decide +kernel
theorem dX0_copyFrom_49 : decode cX0_copyFrom 49 = .ok (.iaload, 1) := by decide +kernel
theorem dX0_copyFrom_50 : decode cX0_copyFrom 50 = .ok (.iastore, 1) := by decide +kernel
theorem dX0_copyFrom_51 : decode cX0_copyFrom 51 = .ok (.iinc 2 1, 3) := by decide +kernel
theorem dX0_copyFrom_54 : decode cX0_copyFrom 54 = .ok (.goto (-20), 3) := by decide +kernel
theorem dX0_copyFrom_57 : decode cX0_copyFrom 57 = .ok (.iconst 0, 1) := by decide +kernel
theorem dX0_copyFrom_58 : decode cX0_copyFrom 58 = .ok (.istore_n 2, 1) := by decide +kernel
theorem dX0_copyFrom_59 : decode cX0_copyFrom 59 = .ok (.iload_n 2, 1) := by decide +kernel
theorem dX0_copyFrom_60 : decode cX0_copyFrom 60 = .ok (.bipush 8, 2) := by decide +kernel
theorem dX0_copyFrom_62 : decode cX0_copyFrom 62 = .ok (.if_icmp .ge 57, 3) := by decide +kernel
theorem dX0_copyFrom_65 : decode cX0_copyFrom 65 = .ok (.aload_n 0, 1) := by decide +kernel
theorem dX0_copyFrom_66 : decode cX0_copyFrom 66 = .ok (.getfield 9, 3) := by decide +kernel
theorem dX0_copyFrom_69 : decode cX0_copyFrom 69 = .ok (.iload_n 2, 1) := by decide +kernel
theorem dX0_copyFrom_70 : decode cX0_copyFrom 70 = .ok (.aload_n 1, 1) := by decide +kernel
theorem dX0_copyFrom_71 : decode cX0_copyFrom 71 = .ok (.getfield 9, 3) := by decide +kernel
theorem dX0_copyFrom_74 : decode cX0_copyFrom 74 = .ok (.iload_n 2, 1) := by decide +kernel
theorem dX0_copyFrom_75 : decode cX0_copyFrom 75 = .ok (.iaload, 1) := by decide +kernel
theorem dX0_copyFrom_76 : decode cX0_copyFrom 76 = .ok (.iastore, 1) := by decide +kernel
theorem dX0_copyFrom_77 : decode cX0_copyFrom 77 = .ok (.aload_n 0, 1) := by decide +kernel
theorem dX0_copyFrom_78 : decode cX0_copyFrom 78 = .ok (.getfield 15, 3) := by decide +kernel
theorem dX0_copyFrom_81 : decode cX0_copyFrom 81 = .ok (.iload_n 2, 1) := by decide +kernel
theorem dX0_copyFrom_82 : decode cX0_copyFrom 82 = .ok (.aload_n 1, 1) := by decide +kernel
theorem dX0_copyFrom_83 : decode cX0_copyFrom 83 = .ok (.getfield 15, 3) := by decide +kernel
theorem dX0_copyFrom_86 : decode cX0_copyFrom 86 = .ok (.iload_n 2, 1) := by decide +kernel
theorem dX0_copyFrom_87 : decode cX0_copyFrom 87 = .ok (.iaload, 1) := by decide +kernel
theorem dX0_copyFrom_88 : decode cX0_copyFrom 88 = .ok (.iastore, 1) := by decide +kernel
theorem dX0_copyFrom_89 : decode cX0_copyFrom 89 = .ok (.aload_n 0, 1) := by decide +kernel
theorem dX0_copyFrom_90 : decode cX0_copyFrom 90 = .ok (.getfield 18, 3) := by decide +kernel
theorem dX0_copyFrom_93 : decode cX0_copyFrom 93 = .ok (.iload_n 2, 1) := by decide +kernel
theorem dX0_copyFrom_94 : decode cX0_copyFrom 94 = .ok (.aload_n 1, 1) := by decide +kernel
theorem dX0_copyFrom_95 : decode cX0_copyFrom 95 = .ok (.getfield 18, 3) := by decide +kernel
theorem dX0_copyFrom_98 : decode cX0_copyFrom 98 = .ok (.iload_n 2, 1) := by decide +kernel
theorem dX0_copyFrom_99 : decode cX0_copyFrom 99 = .ok (.iaload, 1) := by decide +kernel
theorem dX0_copyFrom_100 : decode cX0_copyFrom 100 = .ok (.iastore, 1) := by decide +kernel
theorem dX0_copyFrom_101 : decode cX0_copyFrom 101 = .ok (.aload_n 0, 1) := by decide +kernel
theorem dX0_copyFrom_102 : decode cX0_copyFrom 102 = .ok (.getfield 21, 3) := by decide +kernel
theorem dX0_copyFrom_105 : decode cX0_copyFrom 105 = .ok (.iload_n 2, 1) := by decide +kernel
theorem dX0_copyFrom_106 : decode cX0_copyFrom 106 = .ok (.aload_n 1, 1) := by decide +kernel
theorem dX0_copyFrom_107 : decode cX0_copyFrom 107 = .ok (.getfield 21, 3) := by decide +kernel
theorem dX0_copyFrom_110 : decode cX0_copyFrom 110 = .ok (.iload_n 2, 1) := by decide +kernel
theorem dX0_copyFrom_111 : decode cX0_copyFrom 111 = .ok (.iaload, 1) := by decide +kernel
theorem dX0_copyFrom_112 : decode cX0_copyFrom 112 = .ok (.iastore, 1) := by decide +kernel
theorem dX0_copyFrom_113 : decode cX0_copyFrom 113 = .ok (.iinc 2 1, 3) := by decide +kernel
theorem dX0_copyFrom_116 : decode cX0_copyFrom 116 = .ok (.goto (-57), 3) := by decide +kernel
theorem dX0_copyFrom_119 : decode cX0_copyFrom 119 = .ok (.return_, 1) := by decide +kernel
theorem dX0_addThing_0 : decode cX0_addThing 0 = .ok (.aload_n 0, 1) := by decide +kernel
theorem dX0_addThing_1 : decode cX0_addThing 1 = .ok (.getfield 37, 3) := by decide +kernel
theorem dX0_addThing_4 : decode cX0_addThing 4 = .ok (.bipush 8, 2) := by decide +kernel
theorem dX0_addThing_6 : decode cX0_addThing 6 = .ok (.if_icmp .lt 4, 3) := by decide +kernel
theorem dX0_addThing_9 : decode cX0_addThing 9 = .ok (.return_, 1) := by decide +kernel
theorem dX0_addThing_10 : decode cX0_addThing 10 = .ok (.aload_n 0, 1) := by decide +kernel
theorem dX0_addThing_11 : decode cX0_addThing 11 = .ok (.getfield 9, 3) := by decide +kernel
theorem dX0_addThing_14 : decode cX0_addThing 14 = .ok (.aload_n 0, 1) := by decide +kernel
theorem dX0_addThing_15 : decode cX0_addThing 15 = .ok (.getfield 37, 3) := by decide +kernel
theorem dX0_addThing_18 : decode cX0_addThing 18 = .ok (.iload_n 1, 1) := by decide +kernel
theorem dX0_addThing_19 : decode cX0_addThing 19 = .ok (.iastore, 1) := by decide +kernel
theorem dX0_addThing_20 : decode cX0_addThing 20 = .ok (.aload_n 0, 1) := by decide +kernel
theorem dX0_addThing_21 : decode cX0_addThing 21 = .ok (.getfield 15, 3) := by decide +kernel
theorem dX0_addThing_24 : decode cX0_addThing 24 = .ok (.aload_n 0, 1) := by decide +kernel
theorem dX0_addThing_25 : decode cX0_addThing 25 = .ok (.getfield 37, 3) := by decide +kernel
theorem dX0_addThing_28 : decode cX0_addThing 28 = .ok (.iload_n 2, 1) := by decide +kernel
theorem dX0_addThing_29 : decode cX0_addThing 29 = .ok (.iastore, 1) := by decide +kernel
theorem dX0_addThing_30 : decode cX0_addThing 30 = .ok (.aload_n 0, 1) := by decide +kernel
theorem dX0_addThing_31 : decode cX0_addThing 31 = .ok (.getfield 18, 3) := by decide +kernel
theorem dX0_addThing_34 : decode cX0_addThing 34 = .ok (.aload_n 0, 1) := by decide +kernel
theorem dX0_addThing_35 : decode cX0_addThing 35 = .ok (.getfield 37, 3) := by decide +kernel
theorem dX0_addThing_38 : decode cX0_addThing 38 = .ok (.iload_n 3, 1) := by decide +kernel
theorem dX0_addThing_39 : decode cX0_addThing 39 = .ok (.iastore, 1) := by decide +kernel
theorem dX0_addThing_40 : decode cX0_addThing 40 = .ok (.aload_n 0, 1) := by decide +kernel
theorem dX0_addThing_41 : decode cX0_addThing 41 = .ok (.getfield 21, 3) := by decide +kernel
theorem dX0_addThing_44 : decode cX0_addThing 44 = .ok (.aload_n 0, 1) := by decide +kernel
theorem dX0_addThing_45 : decode cX0_addThing 45 = .ok (.getfield 37, 3) := by decide +kernel
theorem dX0_addThing_48 : decode cX0_addThing 48 = .ok (.iload 4, 2) := by decide +kernel
theorem dX0_addThing_50 : decode cX0_addThing 50 = .ok (.iastore, 1) := by decide +kernel
theorem dX0_addThing_51 : decode cX0_addThing 51 = .ok (.aload_n 0, 1) := by decide +kernel
theorem dX0_addThing_52 : decode cX0_addThing 52 = .ok (.dup, 1) := by decide +kernel
theorem dX0_addThing_53 : decode cX0_addThing 53 = .ok (.getfield 37, 3) := by decide +kernel
theorem dX0_addThing_56 : decode cX0_addThing 56 = .ok (.iconst 1, 1) := by decide +kernel
theorem dX0_addThing_57 : decode cX0_addThing 57 = .ok (.iadd, 1) := by decide +kernel
theorem dX0_addThing_58 : decode cX0_addThing 58 = .ok (.putfield 37, 3) := by decide +kernel
theorem dX0_addThing_61 : decode cX0_addThing 61 = .ok (.return_, 1) := by decide +kernel
theorem dX1_init_0 : decode cX1_init 0 = .ok (.aload_n 0, 1) := by decide +kernel
theorem dX1_init_1 : decode cX1_init 1 = .ok (.invokespecial 3, 3) := by decide +kernel
theorem dX1_init_4 : decode cX1_init 4 = .ok (.return_, 1) := by decide +kernel
theorem dX1_clear_0 : decode cX1_clear 0 = .ok (.aload_n 0, 1) := by decide +kernel
theorem dX1_clear_1 : decode cX1_clear 1 = .ok (.iconst 0, 1) := by decide +kernel
theorem dX1_clear_2 : decode cX1_clear 2 = .ok (.putfield 9, 3) := by decide +kernel
theorem dX1_clear_5 : decode cX1_clear 5 = .ok (.aload_n 0, 1) := by decide +kernel
theorem dX1_clear_6 : decode cX1_clear 6 = .ok (.iconst 0, 1) := by decide +kernel
theorem dX1_clear_7 : decode cX1_clear 7 = .ok (.putfield 15, 3) := by decide +kernel
theorem dX1_clear_10 : decode cX1_clear 10 = .ok (.aload_n 0, 1) := by decide +kernel
theorem dX1_clear_11 : decode cX1_clear 11 = .ok (.iconst 0, 1) := by decide +kernel
theorem dX1_clear_12 : decode cX1_clear 12 = .ok (.putfield 18, 3) := by decide +kernel
theorem dX1_clear_15 : decode cX1_clear 15 = .ok (.aload_n 0, 1) := by decide +kernel
theorem dX1_clear_16 : decode cX1_clear 16 = .ok (.iconst 0, 1) := by decide +kernel
theorem dX1_clear_17 : decode cX1_clear 17 = .ok (.putfield 21, 3) := by decide +kernel
theorem dX1_clear_20 : decode cX1_clear 20 = .ok (.aload_n 0, 1) := by decide +kernel
theorem dX1_clear_21 : decode cX1_clear 21 = .ok (.iconst 0, 1) := by decide +kernel
theorem dX1_clear_22 : decode cX1_clear 22 = .ok (.putfield 24, 3) := by decide +kernel
theorem dX1_clear_25 : decode cX1_clear 25 = .ok (.aload_n 0, 1) := by decide +kernel
theorem dX1_clear_26 : decode cX1_clear 26 = .ok (.iconst 0, 1) := by decide +kernel
theorem dX1_clear_27 : decode cX1_clear 27 = .ok (.putfield 27, 3) := by decide +kernel
theorem dX1_clear_30 : decode cX1_clear 30 = .ok (.return_, 1) := by decide +kernel
theorem dX1_copyFrom_0 : decode cX1_copyFrom 0 = .ok (.aload_n 0, 1) := by decide +kernel
theorem dX1_copyFrom_1 : decode cX1_copyFrom 1 = .ok (.aload_n 1, 1) := by decide +kernel
theorem dX1_copyFrom_2 : decode cX1_copyFrom 2 = .ok (.getfield 9, 3) := by decide +kernel
theorem dX1_copyFrom_5 : decode cX1_copyFrom 5 = .ok (.putfield 9, 3) := by decide +kernel
theorem dX1_copyFrom_8 : decode cX1_copyFrom 8 = .ok (.aload_n 0, 1) := by decide +kernel
theorem dX1_copyFrom_9 : decode cX1_copyFrom 9 = .ok (.aload_n 1, 1) := by decide +kernel
theorem dX1_copyFrom_10 : decode cX1_copyFrom 10 = .ok (.getfield 15, 3) := by decide +kernel
theorem dX1_copyFrom_13 : decode cX1_copyFrom 13 = .ok (.putfield 15, 3) := by decide +kernel
theorem dX1_copyFrom_16 : decode cX1_copyFrom 16 = .ok (.aload_n 0, 1) := by decide +kernel
theorem dX1_copyFrom_17 : decode cX1_copyFrom 17 = .ok (.aload_n 1, 1) := by decide +kernel
theorem dX1_copyFrom_18 : decode cX1_copyFrom 18 = .ok (.getfield 18, 3) := by decide +kernel
theorem dX1_copyFrom_21 : decode cX1_copyFrom 21 = .ok (.putfield 18, 3) := by decide +kernel
theorem dX1_copyFrom_24 : decode cX1_copyFrom 24 = .ok (.aload_n 0, 1) := by decide +kernel
theorem dX1_copyFrom_25 : decode cX1_copyFrom 25 = .ok (.aload_n 1, 1) := by decide +kernel
theorem dX1_copyFrom_26 : decode cX1_copyFrom 26 = .ok (.getfield 21, 3) := by decide +kernel
theorem dX1_copyFrom_29 : decode cX1_copyFrom 29 = .ok (.putfield 21, 3) := by decide +kernel
theorem dX1_copyFrom_32 : decode cX1_copyFrom 32 = .ok (.aload_n 0, 1) := by decide +kernel
theorem dX1_copyFrom_33 : decode cX1_copyFrom 33 = .ok (.aload_n 1, 1) := by decide +kernel
theorem dX1_copyFrom_34 : decode cX1_copyFrom 34 = .ok (.getfield 24, 3) := by decide +kernel
theorem dX1_copyFrom_37 : decode cX1_copyFrom 37 = .ok (.putfield 24, 3) := by decide +kernel
theorem dX1_copyFrom_40 : decode cX1_copyFrom 40 = .ok (.aload_n 0, 1) := by decide +kernel
theorem dX1_copyFrom_41 : decode cX1_copyFrom 41 = .ok (.aload_n 1, 1) := by decide +kernel
theorem dX1_copyFrom_42 : decode cX1_copyFrom 42 = .ok (.getfield 27, 3) := by decide +kernel
theorem dX1_copyFrom_45 : decode cX1_copyFrom 45 = .ok (.putfield 27, 3) := by decide +kernel
theorem dX1_copyFrom_48 : decode cX1_copyFrom 48 = .ok (.return_, 1) := by decide +kernel
theorem dX1_goldOf_0 : decode cX1_goldOf 0 = .ok (.aload_n 0, 1) := by decide +kernel
theorem dX1_goldOf_1 : decode cX1_goldOf 1 = .ok (.getfield 21, 3) := by decide +kernel
theorem dX1_goldOf_4 : decode cX1_goldOf 4 = .ok (.iload_n 1, 1) := by decide +kernel
theorem dX1_goldOf_5 : decode cX1_goldOf 5 = .ok (.invokestatic 30, 3) := by decide +kernel
theorem dX1_goldOf_8 : decode cX1_goldOf 8 = .ok (.ifCond .eq 5, 3) := by decide +kernel
theorem dX1_goldOf_11 : decode cX1_goldOf 11 = .ok (.iconst 2, 1) := by decide +kernel
theorem dX1_goldOf_12 : decode cX1_goldOf 12 = .ok (.ireturn, 1) := by decide +kernel
theorem dX1_goldOf_13 : decode cX1_goldOf 13 = .ok (.aload_n 0, 1) := by decide +kernel
theorem dX1_goldOf_14 : decode cX1_goldOf 14 = .ok (.getfield 18, 3) := by decide +kernel
theorem dX1_goldOf_17 : decode cX1_goldOf 17 = .ok (.iload_n 1, 1) := by decide +kernel
theorem dX1_goldOf_18 : decode cX1_goldOf 18 = .ok (.invokestatic 30, 3) := by decide +kernel
theorem dX1_goldOf_21 : decode cX1_goldOf 21 = .ok (.ifCond .eq 7, 3) := by decide +kernel
theorem dX1_goldOf_24 : decode cX1_goldOf 24 = .ok (.iconst 1, 1) := by decide +kernel
theorem dX1_goldOf_25 : decode cX1_goldOf 25 = .ok (.goto 4, 3) := by decide +kernel
theorem dX1_goldOf_28 : decode cX1_goldOf 28 = .ok (.iconst 0, 1) := by decide +kernel
theorem dX1_goldOf_29 : decode cX1_goldOf 29 = .ok (.ireturn, 1) := by decide +kernel
theorem dX1_isLost_0 : decode cX1_isLost 0 = .ok (.aload_n 0, 1) := by decide +kernel
theorem dX1_isLost_1 : decode cX1_isLost 1 = .ok (.getfield 24, 3) := by decide +kernel
theorem dX1_isLost_4 : decode cX1_isLost 4 = .ok (.iload_n 2, 1) := by decide +kernel
theorem dX1_isLost_5 : decode cX1_isLost 5 = .ok (.invokestatic 30, 3) := by decide +kernel
theorem dX1_isLost_8 : decode cX1_isLost 8 = .ok (.ifCond .ne 19, 3) := by decide +kernel
theorem dX1_isLost_11 : decode cX1_isLost 11 = .ok (.aload_n 0, 1) := by decide +kernel
theorem dX1_isLost_12 : decode cX1_isLost 12 = .ok (.getfield 27, 3) := by decide +kernel
theorem dX1_isLost_15 : decode cX1_isLost 15 = .ok (.aload_n 1, 1) := by decide +kernel
theorem dX1_isLost_16 : decode cX1_isLost 16 = .ok (.getfield 34, 3) := by decide +kernel
theorem dX1_isLost_19 : decode cX1_isLost 19 = .ok (.iload_n 2, 1) := by decide +kernel
theorem dX1_isLost_20 : decode cX1_isLost 20 = .ok (.iaload, 1) := by decide +kernel
theorem dX1_isLost_21 : decode cX1_isLost 21 = .ok (.invokestatic 30, 3) := by decide +kernel
theorem dX1_isLost_24 : decode cX1_isLost 24 = .ok (.ifCond .eq 7, 3) := by decide +kernel
theorem dX1_isLost_27 : decode cX1_isLost 27 = .ok (.iconst 1, 1) := by decide +kernel
theorem dX1_isLost_28 : decode cX1_isLost 28 = .ok (.goto 4, 3) := by decide +kernel
theorem dX1_isLost_31 : decode cX1_isLost 31 = .ok (.iconst 0, 1) := by decide +kernel
theorem dX1_isLost_32 : decode cX1_isLost 32 = .ok (.ireturn, 1) := by decide +kernel
theorem dX1_weighs_0 : decode cX1_weighs 0 = .ok (.aload_n 0, 1) := by decide +kernel
theorem dX1_weighs_1 : decode cX1_weighs 1 = .ok (.getfield 24, 3) := by decide +kernel
theorem dX1_weighs_4 : decode cX1_weighs 4 = .ok (.iload_n 2, 1) := by decide +kernel
theorem dX1_weighs_5 : decode cX1_weighs 5 = .ok (.invokestatic 30, 3) := by decide +kernel
theorem dX1_weighs_8 : decode cX1_weighs 8 = .ok (.ifCond .eq 5, 3) := by decide +kernel
theorem dX1_weighs_11 : decode cX1_weighs 11 = .ok (.iconst 0, 1) := by decide +kernel
theorem dX1_weighs_12 : decode cX1_weighs 12 = .ok (.ireturn, 1) := by decide +kernel
theorem dX1_weighs_13 : decode cX1_weighs 13 = .ok (.aload_n 0, 1) := by decide +kernel
theorem dX1_weighs_14 : decode cX1_weighs 14 = .ok (.iload_n 2, 1) := by decide +kernel
theorem dX1_weighs_15 : decode cX1_weighs 15 = .ok (.invokevirtual 40, 3) := by decide +kernel
theorem dX1_weighs_18 : decode cX1_weighs 18 = .ok (.ifCond .eq 14, 3) := by decide +kernel
theorem dX1_weighs_21 : decode cX1_weighs 21 = .ok (.iconst 3, 1) := by decide +kernel
theorem dX1_weighs_22 : decode cX1_weighs 22 = .ok (.aload_n 1, 1) := by decide +kernel
theorem dX1_weighs_23 : decode cX1_weighs 23 = .ok (.getfield 44, 3) := by decide +kernel
theorem dX1_weighs_26 : decode cX1_weighs 26 = .ok (.iload_n 2, 1) := by decide +kernel
theorem dX1_weighs_27 : decode cX1_weighs 27 = .ok (.iaload, 1) := by decide +kernel
theorem dX1_weighs_28 : decode cX1_weighs 28 = .ok (.imul, 1) := by decide +kernel
theorem dX1_weighs_29 : decode cX1_weighs 29 = .ok (.goto 9, 3) := by decide +kernel
theorem dX1_weighs_32 : decode cX1_weighs 32 = .ok (.aload_n 1, 1) := by decide +kernel
theorem dX1_weighs_33 : decode cX1_weighs 33 = .ok (.getfield 44, 3) := by decide +kernel
theorem dX1_weighs_36 : decode cX1_weighs 36 = .ok (.iload_n 2, 1) := by decide +kernel
theorem dX1_weighs_37 : decode cX1_weighs 37 = .ok (.iaload, 1) := by decide +kernel
theorem dX1_weighs_38 : decode cX1_weighs 38 = .ok (.ireturn, 1) := by decide +kernel
theorem dX1_loadOf_0 : decode cX1_loadOf 0 = .ok (.iconst 0, 1) := by decide +kernel
theorem dX1_loadOf_1 : decode cX1_loadOf 1 = .ok (.istore_n 3, 1) := by decide +kernel
theorem dX1_loadOf_2 : decode cX1_loadOf 2 = .ok (.iconst 0, 1) := by decide +kernel
theorem dX1_loadOf_3 : decode cX1_loadOf 3 = .ok (.istore 4, 2) := by decide +kernel
theorem dX1_loadOf_5 : decode cX1_loadOf 5 = .ok (.iload 4, 2) := by decide +kernel
theorem dX1_loadOf_7 : decode cX1_loadOf 7 = .ok (.aload_n 1, 1) := by decide +kernel
theorem dX1_loadOf_8 : decode cX1_loadOf 8 = .ok (.getfield 47, 3) := by decide +kernel
theorem dX1_loadOf_11 : decode cX1_loadOf 11 = .ok (.if_icmp .ge 30, 3) := by decide +kernel
theorem dX1_loadOf_14 : decode cX1_loadOf 14 = .ok (.aload_n 1, 1) := by decide +kernel
theorem dX1_loadOf_15 : decode cX1_loadOf 15 = .ok (.getfield 34, 3) := by decide +kernel
theorem dX1_loadOf_18 : decode cX1_loadOf 18 = .ok (.iload 4, 2) := by decide +kernel
theorem dX1_loadOf_20 : decode cX1_loadOf 20 = .ok (.iaload, 1) := by decide +kernel
theorem dX1_loadOf_21 : decode cX1_loadOf 21 = .ok (.iload_n 2, 1) := by decide +kernel
theorem dX1_loadOf_22 : decode cX1_loadOf 22 = .ok (.if_icmp .ne 13, 3) := by decide +kernel
theorem dX1_loadOf_25 : decode cX1_loadOf 25 = .ok (.iload_n 3, 1) := by decide +kernel
theorem dX1_loadOf_26 : decode cX1_loadOf 26 = .ok (.aload_n 0, 1) := by decide +kernel
theorem dX1_loadOf_27 : decode cX1_loadOf 27 = .ok (.aload_n 1, 1) := by decide +kernel
theorem dX1_loadOf_28 : decode cX1_loadOf 28 = .ok (.iload 4, 2) := by decide +kernel
theorem dX1_loadOf_30 : decode cX1_loadOf 30 = .ok (.invokevirtual 50, 3) := by decide +kernel
theorem dX1_loadOf_33 : decode cX1_loadOf 33 = .ok (.iadd, 1) := by decide +kernel
theorem dX1_loadOf_34 : decode cX1_loadOf 34 = .ok (.istore_n 3, 1) := by decide +kernel
theorem dX1_loadOf_35 : decode cX1_loadOf 35 = .ok (.iinc 4 1, 3) := by decide +kernel
theorem dX1_loadOf_38 : decode cX1_loadOf 38 = .ok (.goto (-33), 3) := by decide +kernel
theorem dX1_loadOf_41 : decode cX1_loadOf 41 = .ok (.iload_n 3, 1) := by decide +kernel
theorem dX1_loadOf_42 : decode cX1_loadOf 42 = .ok (.ireturn, 1) := by decide +kernel
theorem dX1_firstOverloaded_0 : decode cX1_firstOverloaded 0 = .ok (.iconst 0, 1) := by decide +kernel
theorem dX1_firstOverloaded_1 : decode cX1_firstOverloaded 1 = .ok (.istore_n 2, 1) := by decide +kernel
theorem dX1_firstOverloaded_2 : decode cX1_firstOverloaded 2 = .ok (.iload_n 2, 1) := by decide +kernel
theorem dX1_firstOverloaded_3 : decode cX1_firstOverloaded 3 = .ok (.iconst 3, 1) := by decide +kernel
theorem dX1_firstOverloaded_4 : decode cX1_firstOverloaded 4 = .ok (.if_icmp .ge 37, 3) := by decide +kernel
theorem dX1_firstOverloaded_7 : decode cX1_firstOverloaded 7 = .ok (.aload_n 0, 1) := by decide +kernel
theorem dX1_firstOverloaded_8 : decode cX1_firstOverloaded 8 = .ok (.getfield 27, 3) := by decide +kernel
theorem dX1_firstOverloaded_11 : decode cX1_firstOverloaded 11 = .ok (.iload_n 2, 1) := by decide +kernel
theorem dX1_firstOverloaded_12 : decode cX1_firstOverloaded 12 = .ok (.invokestatic 30, 3) := by decide +kernel
theorem dX1_firstOverloaded_15 : decode cX1_firstOverloaded 15 = .ok (.ifCond .ne 20, 3) := by decide +kernel
theorem dX1_firstOverloaded_18 : decode cX1_firstOverloaded 18 = .ok (.aload_n 0, 1) := by decide +kernel
theorem dX1_firstOverloaded_19 : decode cX1_firstOverloaded 19 = .ok (.aload_n 1, 1) := by decide +kernel
theorem dX1_firstOverloaded_20 : decode cX1_firstOverloaded 20 = .ok (.iload_n 2, 1) := by decide +kernel
theorem dX1_firstOverloaded_21 : decode cX1_firstOverloaded 21 = .ok (.invokevirtual 54, 3) := by decide +kernel
theorem dX1_firstOverloaded_24 : decode cX1_firstOverloaded 24 = .ok (.aload_n 1, 1) := by decide +kernel
theorem dX1_firstOverloaded_25 : decode cX1_firstOverloaded 25 = .ok (.getfield 57, 3) := by decide +kernel
theorem dX1_firstOverloaded_28 : decode cX1_firstOverloaded 28 = .ok (.iload_n 2, 1) := by decide +kernel
theorem dX1_firstOverloaded_29 : decode cX1_firstOverloaded 29 = .ok (.iaload, 1) := by decide +kernel
theorem dX1_firstOverloaded_30 : decode cX1_firstOverloaded 30 = .ok (.if_icmp .le 5, 3) := by decide +kernel
theorem dX1_firstOverloaded_33 : decode cX1_firstOverloaded 33 = .ok (.iload_n 2, 1) := by decide +kernel
theorem dX1_firstOverloaded_34 : decode cX1_firstOverloaded 34 = .ok (.ireturn, 1) := by decide +kernel
theorem dX1_firstOverloaded_35 : decode cX1_firstOverloaded 35 = .ok (.iinc 2 1, 3) := by decide +kernel
theorem dX1_firstOverloaded_38 : decode cX1_firstOverloaded 38 = .ok (.goto (-36), 3) := by decide +kernel
theorem dX1_firstOverloaded_41 : decode cX1_firstOverloaded 41 = .ok (.iconst (-1), 1) := by decide +kernel
theorem dX1_firstOverloaded_42 : decode cX1_firstOverloaded 42 = .ok (.ireturn, 1) := by decide +kernel
theorem dX1_priceOf_0 : decode cX1_priceOf 0 = .ok (.aload_n 0, 1) := by decide +kernel
theorem dX1_priceOf_1 : decode cX1_priceOf 1 = .ok (.aload_n 1, 1) := by decide +kernel
theorem dX1_priceOf_2 : decode cX1_priceOf 2 = .ok (.iload_n 2, 1) := by decide +kernel
theorem dX1_priceOf_3 : decode cX1_priceOf 3 = .ok (.invokevirtual 60, 3) := by decide +kernel
theorem dX1_priceOf_6 : decode cX1_priceOf 6 = .ok (.ifCond .eq 5, 3) := by decide +kernel
theorem dX1_priceOf_9 : decode cX1_priceOf 9 = .ok (.iconst 0, 1) := by decide +kernel
theorem dX1_priceOf_10 : decode cX1_priceOf 10 = .ok (.ireturn, 1) := by decide +kernel
theorem dX1_priceOf_11 : decode cX1_priceOf 11 = .ok (.aload_n 0, 1) := by decide +kernel
theorem dX1_priceOf_12 : decode cX1_priceOf 12 = .ok (.iload_n 2, 1) := by decide +kernel
theorem dX1_priceOf_13 : decode cX1_priceOf 13 = .ok (.invokevirtual 40, 3) := by decide +kernel
theorem dX1_priceOf_16 : decode cX1_priceOf 16 = .ok (.ifCond .eq 14, 3) := by decide +kernel
theorem dX1_priceOf_19 : decode cX1_priceOf 19 = .ok (.iconst 3, 1) := by decide +kernel
theorem dX1_priceOf_20 : decode cX1_priceOf 20 = .ok (.aload_n 1, 1) := by decide +kernel
theorem dX1_priceOf_21 : decode cX1_priceOf 21 = .ok (.getfield 44, 3) := by decide +kernel
theorem dX1_priceOf_24 : decode cX1_priceOf 24 = .ok (.iload_n 2, 1) := by decide +kernel
theorem dX1_priceOf_25 : decode cX1_priceOf 25 = .ok (.iaload, 1) := by decide +kernel
theorem dX1_priceOf_26 : decode cX1_priceOf 26 = .ok (.imul, 1) := by decide +kernel
theorem dX1_priceOf_27 : decode cX1_priceOf 27 = .ok (.goto 9, 3) := by decide +kernel
theorem dX1_priceOf_30 : decode cX1_priceOf 30 = .ok (.aload_n 1, 1) := by decide +kernel
theorem dX1_priceOf_31 : decode cX1_priceOf 31 = .ok (.getfield 64, 3) := by decide +kernel
theorem dX1_priceOf_34 : decode cX1_priceOf 34 = .ok (.iload_n 2, 1) := by decide +kernel
theorem dX1_priceOf_35 : decode cX1_priceOf 35 = .ok (.iaload, 1) := by decide +kernel
theorem dX1_priceOf_36 : decode cX1_priceOf 36 = .ok (.ireturn, 1) := by decide +kernel
theorem dX1_prices_0 : decode cX1_prices 0 = .ok (.iconst 0, 1) := by decide +kernel
theorem dX1_prices_1 : decode cX1_prices 1 = .ok (.istore_n 2, 1) := by decide +kernel
theorem dX1_prices_2 : decode cX1_prices 2 = .ok (.iconst 0, 1) := by decide +kernel
theorem dX1_prices_3 : decode cX1_prices 3 = .ok (.istore_n 3, 1) := by decide +kernel
theorem dX1_prices_4 : decode cX1_prices 4 = .ok (.iload_n 3, 1) := by decide +kernel
theorem dX1_prices_5 : decode cX1_prices 5 = .ok (.aload_n 1, 1) := by decide +kernel
theorem dX1_prices_6 : decode cX1_prices 6 = .ok (.getfield 47, 3) := by decide +kernel
theorem dX1_prices_9 : decode cX1_prices 9 = .ok (.if_icmp .ge 18, 3) := by decide +kernel
theorem dX1_prices_12 : decode cX1_prices 12 = .ok (.iload_n 2, 1) := by decide +kernel
theorem dX1_prices_13 : decode cX1_prices 13 = .ok (.aload_n 0, 1) := by decide +kernel
theorem dX1_prices_14 : decode cX1_prices 14 = .ok (.aload_n 1, 1) := by decide +kernel
theorem dX1_prices_15 : decode cX1_prices 15 = .ok (.iload_n 3, 1) := by decide +kernel
theorem dX1_prices_16 : decode cX1_prices 16 = .ok (.invokevirtual 67, 3) := by decide +kernel
theorem dX1_prices_19 : decode cX1_prices 19 = .ok (.iadd, 1) := by decide +kernel
theorem dX1_prices_20 : decode cX1_prices 20 = .ok (.istore_n 2, 1) := by decide +kernel
theorem dX1_prices_21 : decode cX1_prices 21 = .ok (.iinc 3 1, 3) := by decide +kernel
theorem dX1_prices_24 : decode cX1_prices 24 = .ok (.goto (-20), 3) := by decide +kernel
theorem dX1_prices_27 : decode cX1_prices 27 = .ok (.iload_n 2, 1) := by decide +kernel
theorem dX1_prices_28 : decode cX1_prices 28 = .ok (.ireturn, 1) := by decide +kernel
theorem dX1_openGates_0 : decode cX1_openGates 0 = .ok (.iconst 0, 1) := by decide +kernel
theorem dX1_openGates_1 : decode cX1_openGates 1 = .ok (.istore_n 2, 1) := by decide +kernel
theorem dX1_openGates_2 : decode cX1_openGates 2 = .ok (.iconst 0, 1) := by decide +kernel
theorem dX1_openGates_3 : decode cX1_openGates 3 = .ok (.istore_n 3, 1) := by decide +kernel
theorem dX1_openGates_4 : decode cX1_openGates 4 = .ok (.iload_n 3, 1) := by decide +kernel
theorem dX1_openGates_5 : decode cX1_openGates 5 = .ok (.aload_n 1, 1) := by decide +kernel
theorem dX1_openGates_6 : decode cX1_openGates 6 = .ok (.getfield 47, 3) := by decide +kernel
theorem dX1_openGates_9 : decode cX1_openGates 9 = .ok (.if_icmp .ge 39, 3) := by decide +kernel
theorem dX1_openGates_12 : decode cX1_openGates 12 = .ok (.aload_n 1, 1) := by decide +kernel
theorem dX1_openGates_13 : decode cX1_openGates 13 = .ok (.getfield 70, 3) := by decide +kernel
theorem dX1_openGates_16 : decode cX1_openGates 16 = .ok (.iload_n 3, 1) := by decide +kernel
theorem dX1_openGates_17 : decode cX1_openGates 17 = .ok (.iaload, 1) := by decide +kernel
theorem dX1_openGates_18 : decode cX1_openGates 18 = .ok (.iconst 2, 1) := by decide +kernel
theorem dX1_openGates_19 : decode cX1_openGates 19 = .ok (.if_icmp .ne 23, 3) := by decide +kernel
theorem dX1_openGates_22 : decode cX1_openGates 22 = .ok (.aload_n 0, 1) := by decide +kernel
theorem dX1_openGates_23 : decode cX1_openGates 23 = .ok (.iload_n 3, 1) := by decide +kernel
theorem dX1_openGates_24 : decode cX1_openGates 24 = .ok (.invokevirtual 40, 3) := by decide +kernel
theorem dX1_openGates_27 : decode cX1_openGates 27 = .ok (.ifCond .ne 15, 3) := by decide +kernel
theorem dX1_openGates_30 : decode cX1_openGates 30 = .ok (.aload_n 0, 1) := by decide +kernel
theorem dX1_openGates_31 : decode cX1_openGates 31 = .ok (.aload_n 1, 1) := by decide +kernel
theorem dX1_openGates_32 : decode cX1_openGates 32 = .ok (.iload_n 3, 1) := by decide +kernel
theorem dX1_openGates_33 : decode cX1_openGates 33 = .ok (.invokevirtual 60, 3) := by decide +kernel
theorem dX1_openGates_36 : decode cX1_openGates 36 = .ok (.ifCond .ne 6, 3) := by decide +kernel
theorem dX1_openGates_39 : decode cX1_openGates 39 = .ok (.iinc 2 1, 3) := by decide +kernel
theorem dX1_openGates_42 : decode cX1_openGates 42 = .ok (.iinc 3 1, 3) := by decide +kernel
theorem dX1_openGates_45 : decode cX1_openGates 45 = .ok (.goto (-41), 3) := by decide +kernel
theorem dX1_openGates_48 : decode cX1_openGates 48 = .ok (.iload_n 2, 1) := by decide +kernel
theorem dX1_openGates_49 : decode cX1_openGates 49 = .ok (.ireturn, 1) := by decide +kernel
theorem dX1_toolOf_0 : decode cX1_toolOf 0 = .ok (.iconst (-1), 1) := by decide +kernel
theorem dX1_toolOf_1 : decode cX1_toolOf 1 = .ok (.istore 4, 2) := by decide +kernel
theorem dX1_toolOf_3 : decode cX1_toolOf 3 = .ok (.iconst 0, 1) := by decide +kernel
theorem dX1_toolOf_4 : decode cX1_toolOf 4 = .ok (.istore 5, 2) := by decide +kernel
theorem dX1_toolOf_6 : decode cX1_toolOf 6 = .ok (.iconst 0, 1) := by decide +kernel
theorem dX1_toolOf_7 : decode cX1_toolOf 7 = .ok (.istore 6, 2) := by decide +kernel
theorem dX1_toolOf_9 : decode cX1_toolOf 9 = .ok (.iload 6, 2) := by decide +kernel
theorem dX1_toolOf_11 : decode cX1_toolOf 11 = .ok (.aload_n 1, 1) := by decide +kernel
theorem dX1_toolOf_12 : decode cX1_toolOf 12 = .ok (.getfield 47, 3) := by decide +kernel
theorem dX1_toolOf_15 : decode cX1_toolOf 15 = .ok (.if_icmp .ge 99, 3) := by decide +kernel
theorem dX1_toolOf_18 : decode cX1_toolOf 18 = .ok (.aload_n 1, 1) := by decide +kernel
theorem dX1_toolOf_19 : decode cX1_toolOf 19 = .ok (.getfield 70, 3) := by decide +kernel
theorem dX1_toolOf_22 : decode cX1_toolOf 22 = .ok (.iload 6, 2) := by decide +kernel
theorem dX1_toolOf_24 : decode cX1_toolOf 24 = .ok (.iaload, 1) := by decide +kernel
theorem dX1_toolOf_25 : decode cX1_toolOf 25 = .ok (.iconst 1, 1) := by decide +kernel
theorem dX1_toolOf_26 : decode cX1_toolOf 26 = .ok (.if_icmp .ne 82, 3) := by decide +kernel
theorem dX1_toolOf_29 : decode cX1_toolOf 29 = .ok (.aload_n 1, 1) := by decide +kernel
theorem dX1_toolOf_30 : decode cX1_toolOf 30 = .ok (.getfield 34, 3) := by decide +kernel
theorem dX1_toolOf_33 : decode cX1_toolOf 33 = .ok (.iload 6, 2) := by decide +kernel
theorem dX1_toolOf_35 : decode cX1_toolOf 35 = .ok (.iaload, 1) := by decide +kernel
theorem dX1_toolOf_36 : decode cX1_toolOf 36 = .ok (.iload_n 2, 1) := by decide +kernel
theorem dX1_toolOf_37 : decode cX1_toolOf 37 = .ok (.if_icmp .ne 71, 3) := by decide +kernel
theorem dX1_toolOf_40 : decode cX1_toolOf 40 = .ok (.iload_n 3, 1) := by decide +kernel
theorem dX1_toolOf_41 : decode cX1_toolOf 41 = .ok (.iload 6, 2) := by decide +kernel
theorem dX1_toolOf_43 : decode cX1_toolOf 43 = .ok (.invokestatic 30, 3) := by decide +kernel
theorem dX1_toolOf_46 : decode cX1_toolOf 46 = .ok (.ifCond .ne 62, 3) := by decide +kernel
theorem dX1_toolOf_49 : decode cX1_toolOf 49 = .ok (.aload_n 0, 1) := by decide +kernel
theorem dX1_toolOf_50 : decode cX1_toolOf 50 = .ok (.aload_n 1, 1) := by decide +kernel
theorem dX1_toolOf_51 : decode cX1_toolOf 51 = .ok (.iload 6, 2) := by decide +kernel
theorem dX1_toolOf_53 : decode cX1_toolOf 53 = .ok (.invokevirtual 60, 3) := by decide +kernel
theorem dX1_toolOf_56 : decode cX1_toolOf 56 = .ok (.ifCond .eq 6, 3) := by decide +kernel
theorem dX1_toolOf_59 : decode cX1_toolOf 59 = .ok (.goto 49, 3) := by decide +kernel
theorem dX1_toolOf_62 : decode cX1_toolOf 62 = .ok (.aload_n 0, 1) := by decide +kernel
theorem dX1_toolOf_63 : decode cX1_toolOf 63 = .ok (.getfield 21, 3) := by decide +kernel
theorem dX1_toolOf_66 : decode cX1_toolOf 66 = .ok (.iload 6, 2) := by decide +kernel
theorem dX1_toolOf_68 : decode cX1_toolOf 68 = .ok (.invokestatic 30, 3) := by decide +kernel
theorem dX1_toolOf_71 : decode cX1_toolOf 71 = .ok (.ifCond .eq 7, 3) := by decide +kernel
theorem dX1_toolOf_74 : decode cX1_toolOf 74 = .ok (.iconst 0, 1) := by decide +kernel
theorem dX1_toolOf_75 : decode cX1_toolOf 75 = .ok (.goto 10, 3) := by decide +kernel
theorem dX1_toolOf_78 : decode cX1_toolOf 78 = .ok (.aload_n 1, 1) := by decide +kernel
theorem dX1_toolOf_79 : decode cX1_toolOf 79 = .ok (.getfield 44, 3) := by decide +kernel
theorem dX1_toolOf_82 : decode cX1_toolOf 82 = .ok (.iload 6, 2) := by decide +kernel
theorem dX1_toolOf_84 : decode cX1_toolOf 84 = .ok (.iaload, 1) := by decide +kernel
theorem dX1_toolOf_85 : decode cX1_toolOf 85 = .ok (.istore 7, 2) := by decide +kernel
theorem dX1_toolOf_87 : decode cX1_toolOf 87 = .ok (.iload 4, 2) := by decide +kernel
theorem dX1_toolOf_89 : decode cX1_toolOf 89 = .ok (.iconst (-1), 1) := by decide +kernel
theorem dX1_toolOf_90 : decode cX1_toolOf 90 = .ok (.if_icmp .eq 10, 3) := by decide +kernel
theorem dX1_toolOf_93 : decode cX1_toolOf 93 = .ok (.iload 7, 2) := by decide +kernel
theorem dX1_toolOf_95 : decode cX1_toolOf 95 = .ok (.iload 5, 2) := by decide +kernel
theorem dX1_toolOf_97 : decode cX1_toolOf 97 = .ok (.if_icmp .ge 11, 3) := by decide +kernel
theorem dX1_toolOf_100 : decode cX1_toolOf 100 = .ok (.iload 6, 2) := by decide +kernel
theorem dX1_toolOf_102 : decode cX1_toolOf 102 = .ok (.istore 4, 2) := by decide +kernel
theorem dX1_toolOf_104 : decode cX1_toolOf 104 = .ok (.iload 7, 2) := by decide +kernel
theorem dX1_toolOf_106 : decode cX1_toolOf 106 = .ok (.istore 5, 2) := by decide +kernel
theorem dX1_toolOf_108 : decode cX1_toolOf 108 = .ok (.iinc 6 1, 3) := by decide +kernel
theorem dX1_toolOf_111 : decode cX1_toolOf 111 = .ok (.goto (-102), 3) := by decide +kernel
theorem dX1_toolOf_114 : decode cX1_toolOf 114 = .ok (.iload 4, 2) := by decide +kernel
theorem dX1_toolOf_116 : decode cX1_toolOf 116 = .ok (.ireturn, 1) := by decide +kernel
theorem dX1_gild_0 : decode cX1_gild 0 = .ok (.aload_n 1, 1) := by decide +kernel
theorem dX1_gild_1 : decode cX1_gild 1 = .ok (.aload_n 0, 1) := by decide +kernel
theorem dX1_gild_2 : decode cX1_gild 2 = .ok (.getfield 15, 3) := by decide +kernel
theorem dX1_gild_5 : decode cX1_gild 5 = .ok (.aload_n 0, 1) := by decide +kernel
theorem dX1_gild_6 : decode cX1_gild 6 = .ok (.getfield 9, 3) := by decide +kernel
theorem dX1_gild_9 : decode cX1_gild 9 = .ok (.invokestatic 73, 3) := by decide +kernel
theorem dX1_gild_12 : decode cX1_gild 12 = .ok (.istore_n 3, 1) := by decide +kernel
theorem dX1_gild_13 : decode cX1_gild 13 = .ok (.iload_n 3, 1) := by decide +kernel
theorem dX1_gild_14 : decode cX1_gild 14 = .ok (.ifCond .eq 14, 3) := by decide +kernel
theorem dX1_gild_17 : decode cX1_gild 17 = .ok (.aload_n 0, 1) := by decide +kernel
theorem dX1_gild_18 : decode cX1_gild 18 = .ok (.getfield 21, 3) := by decide +kernel
theorem dX1_gild_21 : decode cX1_gild 21 = .ok (.iload_n 2, 1) := by decide +kernel
theorem dX1_gild_22 : decode cX1_gild 22 = .ok (.invokestatic 30, 3) := by decide +kernel
theorem dX1_gild_25 : decode cX1_gild 25 = .ok (.ifCond .eq 4, 3) := by decide +kernel
theorem dX1_gild_28 : decode cX1_gild 28 = .ok (.return_, 1) := by decide +kernel
theorem dX1_gild_29 : decode cX1_gild 29 = .ok (.iload_n 3, 1) := by decide +kernel
theorem dX1_gild_30 : decode cX1_gild 30 = .ok (.iconst 1, 1) := by decide +kernel
theorem dX1_gild_31 : decode cX1_gild 31 = .ok (.if_icmp .ne 27, 3) := by decide +kernel
theorem dX1_gild_34 : decode cX1_gild 34 = .ok (.aload_n 0, 1) := by decide +kernel
theorem dX1_gild_35 : decode cX1_gild 35 = .ok (.getfield 9, 3) := by decide +kernel
theorem dX1_gild_38 : decode cX1_gild 38 = .ok (.aload_n 1, 1) := by decide +kernel
theorem dX1_gild_39 : decode cX1_gild 39 = .ok (.getfield 77, 3) := by decide +kernel
theorem dX1_gild_42 : decode cX1_gild 42 = .ok (.if_icmp .ge 16, 3) := by decide +kernel
theorem dX1_gild_45 : decode cX1_gild 45 = .ok (.aload_n 0, 1) := by decide +kernel
theorem dX1_gild_46 : decode cX1_gild 46 = .ok (.dup, 1) := by decide +kernel
theorem dX1_gild_47 : decode cX1_gild 47 = .ok (.getfield 18, 3) := by decide +kernel
theorem dX1_gild_50 : decode cX1_gild 50 = .ok (.iconst 1, 1) := by decide +kernel
theorem dX1_gild_51 : decode cX1_gild 51 = .ok (.iload_n 2, 1) := by decide +kernel
theorem dX1_gild_52 : decode cX1_gild 52 = .ok (.ishl, 1) := by decide +kernel
theorem dX1_gild_53 : decode cX1_gild 53 = .ok (.ior, 1) := by decide +kernel
theorem dX1_gild_54 : decode cX1_gild 54 = .ok (.putfield 18, 3) := by decide +kernel
theorem dX1_gild_57 : decode cX1_gild 57 = .ok (.return_, 1) := by decide +kernel
theorem dX1_gild_58 : decode cX1_gild 58 = .ok (.aload_n 0, 1) := by decide +kernel
theorem dX1_gild_59 : decode cX1_gild 59 = .ok (.dup, 1) := by decide +kernel
theorem dX1_gild_60 : decode cX1_gild 60 = .ok (.getfield 18, 3) := by decide +kernel
theorem dX1_gild_63 : decode cX1_gild 63 = .ok (.iconst 1, 1) := by decide +kernel
theorem dX1_gild_64 : decode cX1_gild 64 = .ok (.iload_n 2, 1) := by decide +kernel
theorem dX1_gild_65 : decode cX1_gild 65 = .ok (.ishl, 1) := by decide +kernel
theorem dX1_gild_66 : decode cX1_gild 66 = .ok (.iconst (-1), 1) := by decide +kernel
theorem dX1_gild_67 : decode cX1_gild 67 = .ok (.ixor, 1) := by decide +kernel
theorem dX1_gild_68 : decode cX1_gild 68 = .ok (.iand, 1) := by decide +kernel
theorem dX1_gild_69 : decode cX1_gild 69 = .ok (.putfield 18, 3) := by decide +kernel
theorem dX1_gild_72 : decode cX1_gild 72 = .ok (.aload_n 0, 1) := by decide +kernel
theorem dX1_gild_73 : decode cX1_gild 73 = .ok (.dup, 1) := by decide +kernel
theorem dX1_gild_74 : decode cX1_gild 74 = .ok (.getfield 21, 3) := by decide +kernel
theorem dX1_gild_77 : decode cX1_gild 77 = .ok (.iconst 1, 1) := by decide +kernel
theorem dX1_gild_78 : decode cX1_gild 78 = .ok (.iload_n 2, 1) := by decide +kernel
theorem dX1_gild_79 : decode cX1_gild 79 = .ok (.ishl, 1) := by decide +kernel
theorem dX1_gild_80 : decode cX1_gild 80 = .ok (.ior, 1) := by decide +kernel
theorem dX1_gild_81 : decode cX1_gild 81 = .ok (.putfield 21, 3) := by decide +kernel
theorem dX1_gild_84 : decode cX1_gild 84 = .ok (.return_, 1) := by decide +kernel
theorem dX1_pass_0 : decode cX1_pass 0 = .ok (.iconst 0, 1) := by decide +kernel
theorem dX1_pass_1 : decode cX1_pass 1 = .ok (.istore_n 2, 1) := by decide +kernel
theorem dX1_pass_2 : decode cX1_pass 2 = .ok (.iload_n 2, 1) := by decide +kernel
theorem dX1_pass_3 : decode cX1_pass 3 = .ok (.iconst 3, 1) := by decide +kernel
theorem dX1_pass_4 : decode cX1_pass 4 = .ok (.if_icmp .ge 36, 3) := by decide +kernel
theorem dX1_pass_7 : decode cX1_pass 7 = .ok (.aload_n 0, 1) := by decide +kernel
theorem dX1_pass_8 : decode cX1_pass 8 = .ok (.aload_n 1, 1) := by decide +kernel
theorem dX1_pass_9 : decode cX1_pass 9 = .ok (.iload_n 2, 1) := by decide +kernel
theorem dX1_pass_10 : decode cX1_pass 10 = .ok (.invokevirtual 54, 3) := by decide +kernel
theorem dX1_pass_13 : decode cX1_pass 13 = .ok (.aload_n 1, 1) := by decide +kernel
theorem dX1_pass_14 : decode cX1_pass 14 = .ok (.getfield 57, 3) := by decide +kernel
theorem dX1_pass_17 : decode cX1_pass 17 = .ok (.iload_n 2, 1) := by decide +kernel
theorem dX1_pass_18 : decode cX1_pass 18 = .ok (.iaload, 1) := by decide +kernel
theorem dX1_pass_19 : decode cX1_pass 19 = .ok (.if_icmp .le 15, 3) := by decide +kernel
theorem dX1_pass_22 : decode cX1_pass 22 = .ok (.aload_n 0, 1) := by decide +kernel
theorem dX1_pass_23 : decode cX1_pass 23 = .ok (.dup, 1) := by decide +kernel
theorem dX1_pass_24 : decode cX1_pass 24 = .ok (.getfield 27, 3) := by decide +kernel
theorem dX1_pass_27 : decode cX1_pass 27 = .ok (.iconst 1, 1) := by decide +kernel
theorem dX1_pass_28 : decode cX1_pass 28 = .ok (.iload_n 2, 1) := by decide +kernel
theorem dX1_pass_29 : decode cX1_pass 29 = .ok (.ishl, 1) := by decide +kernel
theorem dX1_pass_30 : decode cX1_pass 30 = .ok (.ior, 1) := by decide +kernel
theorem dX1_pass_31 : decode cX1_pass 31 = .ok (.putfield 27, 3) := by decide +kernel
theorem dX1_pass_34 : decode cX1_pass 34 = .ok (.iinc 2 1, 3) := by decide +kernel
theorem dX1_pass_37 : decode cX1_pass 37 = .ok (.goto (-35), 3) := by decide +kernel
theorem dX1_pass_40 : decode cX1_pass 40 = .ok (.aload_n 0, 1) := by decide +kernel
theorem dX1_pass_41 : decode cX1_pass 41 = .ok (.dup, 1) := by decide +kernel
theorem dX1_pass_42 : decode cX1_pass 42 = .ok (.getfield 9, 3) := by decide +kernel
theorem dX1_pass_45 : decode cX1_pass 45 = .ok (.iconst 1, 1) := by decide +kernel
theorem dX1_pass_46 : decode cX1_pass 46 = .ok (.iadd, 1) := by decide +kernel
theorem dX1_pass_47 : decode cX1_pass 47 = .ok (.putfield 9, 3) := by decide +kernel
theorem dX1_pass_50 : decode cX1_pass 50 = .ok (.aload_n 0, 1) := by decide +kernel
theorem dX1_pass_51 : decode cX1_pass 51 = .ok (.getfield 9, 3) := by decide +kernel
theorem dX1_pass_54 : decode cX1_pass 54 = .ok (.aload_n 1, 1) := by decide +kernel
theorem dX1_pass_55 : decode cX1_pass 55 = .ok (.getfield 77, 3) := by decide +kernel
theorem dX1_pass_58 : decode cX1_pass 58 = .ok (.if_icmp .ne 8, 3) := by decide +kernel
theorem dX1_pass_61 : decode cX1_pass 61 = .ok (.aload_n 0, 1) := by decide +kernel
theorem dX1_pass_62 : decode cX1_pass 62 = .ok (.iconst 0, 1) := by decide +kernel
theorem dX1_pass_63 : decode cX1_pass 63 = .ok (.putfield 18, 3) := by decide +kernel
theorem dX1_pass_66 : decode cX1_pass 66 = .ok (.return_, 1) := by decide +kernel
theorem dX2_init_0 : decode cX2_init 0 = .ok (.aload_n 0, 1) := by decide +kernel
theorem dX2_init_1 : decode cX2_init 1 = .ok (.invokespecial 3, 3) := by decide +kernel
theorem dX2_init_4 : decode cX2_init 4 = .ok (.aload_n 0, 1) := by decide +kernel
theorem dX2_init_5 : decode cX2_init 5 = .ok (.iconst 3, 1) := by decide +kernel
theorem dX2_init_6 : decode cX2_init 6 = .ok (.newarray .int, 2) := by decide +kernel
theorem dX2_init_8 : decode cX2_init 8 = .ok (.putfield 9, 3) := by decide +kernel
theorem dX2_init_11 : decode cX2_init 11 = .ok (.return_, 1) := by decide +kernel
theorem dX2_findWay_0 : decode cX2_findWay 0 = .ok (.aload_n 0, 1) := by decide +kernel
theorem dX2_findWay_1 : decode cX2_findWay 1 = .ok (.ldc 15, 2) := by decide +kernel
theorem dX2_findWay_3 : decode cX2_findWay 3 = .ok (.putfield 16, 3) := by decide +kernel
theorem dX2_findWay_6 : decode cX2_findWay 6 = .ok (.iconst 0, 1) := by decide +kernel
theorem dX2_findWay_7 : decode cX2_findWay 7 = .ok (.istore 4, 2) := by decide +kernel
theorem dX2_findWay_9 : decode cX2_findWay 9 = .ok (.iload 4, 2) := by decide +kernel
theorem dX2_findWay_11 : decode cX2_findWay 11 = .ok (.aload_n 1, 1) := by decide +kernel
theorem dX2_findWay_12 : decode cX2_findWay 12 = .ok (.getfield 20, 3) := by decide +kernel
theorem dX2_findWay_15 : decode cX2_findWay 15 = .ok (.if_icmp .ge 30, 3) := by decide +kernel
theorem dX2_findWay_18 : decode cX2_findWay 18 = .ok (.iload_n 3, 1) := by decide +kernel
theorem dX2_findWay_19 : decode cX2_findWay 19 = .ok (.iload 4, 2) := by decide +kernel
theorem dX2_findWay_21 : decode cX2_findWay 21 = .ok (.invokestatic 25, 3) := by decide +kernel
theorem dX2_findWay_24 : decode cX2_findWay 24 = .ok (.ifCond .eq 15, 3) := by decide +kernel
theorem dX2_findWay_27 : decode cX2_findWay 27 = .ok (.aload_n 2, 1) := by decide +kernel
theorem dX2_findWay_28 : decode cX2_findWay 28 = .ok (.aload_n 1, 1) := by decide +kernel
theorem dX2_findWay_29 : decode cX2_findWay 29 = .ok (.iload 4, 2) := by decide +kernel
theorem dX2_findWay_31 : decode cX2_findWay 31 = .ok (.invokevirtual 29, 3) := by decide +kernel
theorem dX2_findWay_34 : decode cX2_findWay 34 = .ok (.ifCond .eq 5, 3) := by decide +kernel
theorem dX2_findWay_37 : decode cX2_findWay 37 = .ok (.iconst 0, 1) := by decide +kernel
theorem dX2_findWay_38 : decode cX2_findWay 38 = .ok (.ireturn, 1) := by decide +kernel
theorem dX2_findWay_39 : decode cX2_findWay 39 = .ok (.iinc 4 1, 3) := by decide +kernel
theorem dX2_findWay_42 : decode cX2_findWay 42 = .ok (.goto (-33), 3) := by decide +kernel
theorem dX2_findWay_45 : decode cX2_findWay 45 = .ok (.iconst 0, 1) := by decide +kernel
theorem dX2_findWay_46 : decode cX2_findWay 46 = .ok (.istore 4, 2) := by decide +kernel
theorem dX2_findWay_48 : decode cX2_findWay 48 = .ok (.iload 4, 2) := by decide +kernel
theorem dX2_findWay_50 : decode cX2_findWay 50 = .ok (.iconst 3, 1) := by decide +kernel
theorem dX2_findWay_51 : decode cX2_findWay 51 = .ok (.if_icmp .ge 24, 3) := by decide +kernel
theorem dX2_findWay_54 : decode cX2_findWay 54 = .ok (.aload_n 0, 1) := by decide +kernel
theorem dX2_findWay_55 : decode cX2_findWay 55 = .ok (.getfield 9, 3) := by decide +kernel
theorem dX2_findWay_58 : decode cX2_findWay 58 = .ok (.iload 4, 2) := by decide +kernel
theorem dX2_findWay_60 : decode cX2_findWay 60 = .ok (.aload_n 2, 1) := by decide +kernel
theorem dX2_findWay_61 : decode cX2_findWay 61 = .ok (.aload_n 1, 1) := by decide +kernel
theorem dX2_findWay_62 : decode cX2_findWay 62 = .ok (.iload 4, 2) := by decide +kernel
theorem dX2_findWay_64 : decode cX2_findWay 64 = .ok (.iload_n 3, 1) := by decide +kernel
theorem dX2_findWay_65 : decode cX2_findWay 65 = .ok (.invokevirtual 35, 3) := by decide +kernel
theorem dX2_findWay_68 : decode cX2_findWay 68 = .ok (.iastore, 1) := by decide +kernel
theorem dX2_findWay_69 : decode cX2_findWay 69 = .ok (.iinc 4 1, 3) := by decide +kernel
theorem dX2_findWay_72 : decode cX2_findWay 72 = .ok (.goto (-24), 3) := by decide +kernel
theorem dX2_findWay_75 : decode cX2_findWay 75 = .ok (.aload_n 0, 1) := by decide +kernel
theorem dX2_findWay_76 : decode cX2_findWay 76 = .ok (.aload_n 1, 1) := by decide +kernel
theorem dX2_findWay_77 : decode cX2_findWay 77 = .ok (.aload_n 2, 1) := by decide +kernel
theorem dX2_findWay_78 : decode cX2_findWay 78 = .ok (.getfield 39, 3) := by decide +kernel
theorem dX2_findWay_81 : decode cX2_findWay 81 = .ok (.aload_n 2, 1) := by decide +kernel
theorem dX2_findWay_82 : decode cX2_findWay 82 = .ok (.getfield 42, 3) := by decide +kernel
theorem dX2_findWay_85 : decode cX2_findWay 85 = .ok (.iload_n 3, 1) := by decide +kernel
theorem dX2_findWay_86 : decode cX2_findWay 86 = .ok (.aload_n 2, 1) := by decide +kernel
theorem dX2_findWay_87 : decode cX2_findWay 87 = .ok (.getfield 45, 3) := by decide +kernel
theorem dX2_findWay_90 : decode cX2_findWay 90 = .ok (.iconst 0, 1) := by decide +kernel
theorem dX2_findWay_91 : decode cX2_findWay 91 = .ok (.iconst (-1), 1) := by decide +kernel
theorem dX2_findWay_92 : decode cX2_findWay 92 = .ok (.invokevirtual 48, 3) := by decide +kernel
theorem dX2_findWay_95 : decode cX2_findWay 95 = .ok (.aload_n 0, 1) := by decide +kernel
theorem dX2_findWay_96 : decode cX2_findWay 96 = .ok (.getfield 16, 3) := by decide +kernel
theorem dX2_findWay_99 : decode cX2_findWay 99 = .ok (.ldc 15, 2) := by decide +kernel
theorem dX2_findWay_101 : decode cX2_findWay 101 = .ok (.if_icmp .eq 7, 3) := by decide +kernel
theorem dX2_findWay_104 : decode cX2_findWay 104 = .ok (.iconst 1, 1) := by decide +kernel
theorem dX2_findWay_105 : decode cX2_findWay 105 = .ok (.goto 4, 3) := by decide +kernel
theorem dX2_findWay_108 : decode cX2_findWay 108 = .ok (.iconst 0, 1) := by decide +kernel
theorem dX2_findWay_109 : decode cX2_findWay 109 = .ok (.ireturn, 1) := by decide +kernel
theorem dX2_search_0 : decode cX2_search 0 = .ok (.iload 6, 2) := by decide +kernel
theorem dX2_search_2 : decode cX2_search 2 = .ok (.iload_n 2, 1) := by decide +kernel
theorem dX2_search_3 : decode cX2_search 3 = .ok (.iload 4, 2) := by decide +kernel
theorem dX2_search_5 : decode cX2_search 5 = .ok (.invokestatic 52, 3) := by decide +kernel
theorem dX2_search_8 : decode cX2_search 8 = .ok (.iadd, 1) := by decide +kernel
theorem dX2_search_9 : decode cX2_search 9 = .ok (.iconst 1, 1) := by decide +kernel
theorem dX2_search_10 : decode cX2_search 10 = .ok (.isub, 1) := by decide +kernel
theorem dX2_search_11 : decode cX2_search 11 = .ok (.invokestatic 58, 3) := by decide +kernel
theorem dX2_search_14 : decode cX2_search 14 = .ok (.aload_n 0, 1) := by decide +kernel
theorem dX2_search_15 : decode cX2_search 15 = .ok (.getfield 16, 3) := by decide +kernel
theorem dX2_search_18 : decode cX2_search 18 = .ok (.if_icmp .lt 4, 3) := by decide +kernel
theorem dX2_search_21 : decode cX2_search 21 = .ok (.return_, 1) := by decide +kernel
theorem dX2_search_22 : decode cX2_search 22 = .ok (.iload 4, 2) := by decide +kernel
theorem dX2_search_24 : decode cX2_search 24 = .ok (.ifCond .ne 15, 3) := by decide +kernel
theorem dX2_search_27 : decode cX2_search 27 = .ok (.aload_n 0, 1) := by decide +kernel
theorem dX2_search_28 : decode cX2_search 28 = .ok (.iload 6, 2) := by decide +kernel
theorem dX2_search_30 : decode cX2_search 30 = .ok (.iload_n 2, 1) := by decide +kernel
theorem dX2_search_31 : decode cX2_search 31 = .ok (.iconst 1, 1) := by decide +kernel
theorem dX2_search_32 : decode cX2_search 32 = .ok (.isub, 1) := by decide +kernel
theorem dX2_search_33 : decode cX2_search 33 = .ok (.iload 7, 2) := by decide +kernel
theorem dX2_search_35 : decode cX2_search 35 = .ok (.invokevirtual 62, 3) := by decide +kernel
theorem dX2_search_38 : decode cX2_search 38 = .ok (.return_, 1) := by decide +kernel
theorem dX2_search_39 : decode cX2_search 39 = .ok (.iload_n 2, 1) := by decide +kernel
theorem dX2_search_40 : decode cX2_search 40 = .ok (.bipush 24, 2) := by decide +kernel
theorem dX2_search_42 : decode cX2_search 42 = .ok (.if_icmp .lt 4, 3) := by decide +kernel
theorem dX2_search_45 : decode cX2_search 45 = .ok (.return_, 1) := by decide +kernel
theorem dX2_search_46 : decode cX2_search 46 = .ok (.iload_n 2, 1) := by decide +kernel
theorem dX2_search_47 : decode cX2_search 47 = .ok (.iconst 1, 1) := by decide +kernel
theorem dX2_search_48 : decode cX2_search 48 = .ok (.iadd, 1) := by decide +kernel
theorem dX2_search_49 : decode cX2_search 49 = .ok (.istore 8, 2) := by decide +kernel
theorem dX2_search_51 : decode cX2_search 51 = .ok (.iload_n 2, 1) := by decide +kernel
theorem dX2_search_52 : decode cX2_search 52 = .ok (.ifCond .eq 13, 3) := by decide +kernel
theorem dX2_search_55 : decode cX2_search 55 = .ok (.iload_n 3, 1) := by decide +kernel
theorem dX2_search_56 : decode cX2_search 56 = .ok (.iload_n 2, 1) := by decide +kernel
theorem dX2_search_57 : decode cX2_search 57 = .ok (.iconst 1, 1) := by decide +kernel
theorem dX2_search_58 : decode cX2_search 58 = .ok (.isub, 1) := by decide +kernel
theorem dX2_search_59 : decode cX2_search 59 = .ok (.invokestatic 25, 3) := by decide +kernel
theorem dX2_search_62 : decode cX2_search 62 = .ok (.ifCond .ne 27, 3) := by decide +kernel
theorem dX2_search_65 : decode cX2_search 65 = .ok (.aload_n 0, 1) := by decide +kernel
theorem dX2_search_66 : decode cX2_search 66 = .ok (.aload_n 1, 1) := by decide +kernel
theorem dX2_search_67 : decode cX2_search 67 = .ok (.iload 8, 2) := by decide +kernel
theorem dX2_search_69 : decode cX2_search 69 = .ok (.iload_n 3, 1) := by decide +kernel
theorem dX2_search_70 : decode cX2_search 70 = .ok (.iconst 1, 1) := by decide +kernel
theorem dX2_search_71 : decode cX2_search 71 = .ok (.iload_n 2, 1) := by decide +kernel
theorem dX2_search_72 : decode cX2_search 72 = .ok (.ishl, 1) := by decide +kernel
theorem dX2_search_73 : decode cX2_search 73 = .ok (.ior, 1) := by decide +kernel
theorem dX2_search_74 : decode cX2_search 74 = .ok (.iload 4, 2) := by decide +kernel
theorem dX2_search_76 : decode cX2_search 76 = .ok (.iload 5, 2) := by decide +kernel
theorem dX2_search_78 : decode cX2_search 78 = .ok (.iload 6, 2) := by decide +kernel
theorem dX2_search_80 : decode cX2_search 80 = .ok (.iload 7, 2) := by decide +kernel
theorem dX2_search_82 : decode cX2_search 82 = .ok (.iconst 2, 1) := by decide +kernel
theorem dX2_search_83 : decode cX2_search 83 = .ok (.invokestatic 66, 3) := by decide +kernel
theorem dX2_search_86 : decode cX2_search 86 = .ok (.invokevirtual 48, 3) := by decide +kernel
theorem dX2_search_89 : decode cX2_search 89 = .ok (.aload_n 1, 1) := by decide +kernel
theorem dX2_search_90 : decode cX2_search 90 = .ok (.iload_n 3, 1) := by decide +kernel
theorem dX2_search_91 : decode cX2_search 91 = .ok (.iload_n 2, 1) := by decide +kernel
theorem dX2_search_92 : decode cX2_search 92 = .ok (.invokestatic 69, 3) := by decide +kernel
theorem dX2_search_95 : decode cX2_search 95 = .ok (.istore 9, 2) := by decide +kernel
theorem dX2_search_97 : decode cX2_search 97 = .ok (.iconst 0, 1) := by decide +kernel
theorem dX2_search_98 : decode cX2_search 98 = .ok (.istore 10, 2) := by decide +kernel
theorem dX2_search_100 : decode cX2_search 100 = .ok (.iload 10, 2) := by decide +kernel
theorem dX2_search_102 : decode cX2_search 102 = .ok (.aload_n 1, 1) := by decide +kernel
theorem dX2_search_103 : decode cX2_search 103 = .ok (.getfield 20, 3) := by decide +kernel
theorem dX2_search_106 : decode cX2_search 106 = .ok (.if_icmp .ge 179, 3) := by decide +kernel
theorem dX2_search_109 : decode cX2_search 109 = .ok (.iload 4, 2) := by decide +kernel
theorem dX2_search_111 : decode cX2_search 111 = .ok (.iload 10, 2) := by decide +kernel
theorem dX2_search_113 : decode cX2_search 113 = .ok (.invokestatic 25, 3) := by decide +kernel
theorem dX2_search_116 : decode cX2_search 116 = .ok (.ifCond .ne 6, 3) := by decide +kernel
theorem dX2_search_119 : decode cX2_search 119 = .ok (.goto 160, 3) := by decide +kernel
theorem dX2_search_122 : decode cX2_search 122 = .ok (.iload 4, 2) := by decide +kernel
theorem dX2_search_124 : decode cX2_search 124 = .ok (.iconst 1, 1) := by decide +kernel
theorem dX2_search_125 : decode cX2_search 125 = .ok (.iload 10, 2) := by decide +kernel
theorem dX2_search_127 : decode cX2_search 127 = .ok (.ishl, 1) := by decide +kernel
theorem dX2_search_128 : decode cX2_search 128 = .ok (.iconst (-1), 1) := by decide +kernel
theorem dX2_search_129 : decode cX2_search 129 = .ok (.ixor, 1) := by decide +kernel
theorem dX2_search_130 : decode cX2_search 130 = .ok (.iand, 1) := by decide +kernel
theorem dX2_search_131 : decode cX2_search 131 = .ok (.istore 11, 2) := by decide +kernel
theorem dX2_search_133 : decode cX2_search 133 = .ok (.aload_n 0, 1) := by decide +kernel
theorem dX2_search_134 : decode cX2_search 134 = .ok (.getfield 9, 3) := by decide +kernel
theorem dX2_search_137 : decode cX2_search 137 = .ok (.aload_n 1, 1) := by decide +kernel
theorem dX2_search_138 : decode cX2_search 138 = .ok (.getfield 72, 3) := by decide +kernel
theorem dX2_search_141 : decode cX2_search 141 = .ok (.iload 10, 2) := by decide +kernel
theorem dX2_search_143 : decode cX2_search 143 = .ok (.iaload, 1) := by decide +kernel
theorem dX2_search_144 : decode cX2_search 144 = .ok (.iaload, 1) := by decide +kernel
theorem dX2_search_145 : decode cX2_search 145 = .ok (.istore 12, 2) := by decide +kernel
theorem dX2_search_147 : decode cX2_search 147 = .ok (.iload 9, 2) := by decide +kernel
theorem dX2_search_149 : decode cX2_search 149 = .ok (.ifCond .ne 30, 3) := by decide +kernel
theorem dX2_search_152 : decode cX2_search 152 = .ok (.aload_n 0, 1) := by decide +kernel
theorem dX2_search_153 : decode cX2_search 153 = .ok (.aload_n 1, 1) := by decide +kernel
theorem dX2_search_154 : decode cX2_search 154 = .ok (.iload 8, 2) := by decide +kernel
theorem dX2_search_156 : decode cX2_search 156 = .ok (.iload_n 3, 1) := by decide +kernel
theorem dX2_search_157 : decode cX2_search 157 = .ok (.iload 11, 2) := by decide +kernel
theorem dX2_search_159 : decode cX2_search 159 = .ok (.iload 5, 2) := by decide +kernel
theorem dX2_search_161 : decode cX2_search 161 = .ok (.iload 6, 2) := by decide +kernel
theorem dX2_search_163 : decode cX2_search 163 = .ok (.iload 7, 2) := by decide +kernel
theorem dX2_search_165 : decode cX2_search 165 = .ok (.bipush 10, 2) := by decide +kernel
theorem dX2_search_167 : decode cX2_search 167 = .ok (.iload 10, 2) := by decide +kernel
theorem dX2_search_169 : decode cX2_search 169 = .ok (.iadd, 1) := by decide +kernel
theorem dX2_search_170 : decode cX2_search 170 = .ok (.invokestatic 66, 3) := by decide +kernel
theorem dX2_search_173 : decode cX2_search 173 = .ok (.invokevirtual 48, 3) := by decide +kernel
theorem dX2_search_176 : decode cX2_search 176 = .ok (.goto 103, 3) := by decide +kernel
theorem dX2_search_179 : decode cX2_search 179 = .ok (.iload 12, 2) := by decide +kernel
theorem dX2_search_181 : decode cX2_search 181 = .ok (.iconst (-1), 1) := by decide +kernel
theorem dX2_search_182 : decode cX2_search 182 = .ok (.if_icmp .eq 54, 3) := by decide +kernel
theorem dX2_search_185 : decode cX2_search 185 = .ok (.iload 5, 2) := by decide +kernel
theorem dX2_search_187 : decode cX2_search 187 = .ok (.iload 12, 2) := by decide +kernel
theorem dX2_search_189 : decode cX2_search 189 = .ok (.invokestatic 25, 3) := by decide +kernel
theorem dX2_search_192 : decode cX2_search 192 = .ok (.ifCond .ne 17, 3) := by decide +kernel
theorem dX2_search_195 : decode cX2_search 195 = .ok (.iload 9, 2) := by decide +kernel
theorem dX2_search_197 : decode cX2_search 197 = .ok (.iconst 1, 1) := by decide +kernel
theorem dX2_search_198 : decode cX2_search 198 = .ok (.if_icmp .ne 38, 3) := by decide +kernel
theorem dX2_search_201 : decode cX2_search 201 = .ok (.iload_n 2, 1) := by decide +kernel
theorem dX2_search_202 : decode cX2_search 202 = .ok (.aload_n 1, 1) := by decide +kernel
theorem dX2_search_203 : decode cX2_search 203 = .ok (.getfield 75, 3) := by decide +kernel
theorem dX2_search_206 : decode cX2_search 206 = .ok (.if_icmp .ge 30, 3) := by decide +kernel
theorem dX2_search_209 : decode cX2_search 209 = .ok (.aload_n 0, 1) := by decide +kernel
theorem dX2_search_210 : decode cX2_search 210 = .ok (.aload_n 1, 1) := by decide +kernel
theorem dX2_search_211 : decode cX2_search 211 = .ok (.iload 8, 2) := by decide +kernel
theorem dX2_search_213 : decode cX2_search 213 = .ok (.iload_n 3, 1) := by decide +kernel
theorem dX2_search_214 : decode cX2_search 214 = .ok (.iload 11, 2) := by decide +kernel
theorem dX2_search_216 : decode cX2_search 216 = .ok (.iload 5, 2) := by decide +kernel
theorem dX2_search_218 : decode cX2_search 218 = .ok (.iload 6, 2) := by decide +kernel
theorem dX2_search_220 : decode cX2_search 220 = .ok (.iload 7, 2) := by decide +kernel
theorem dX2_search_222 : decode cX2_search 222 = .ok (.bipush 20, 2) := by decide +kernel
theorem dX2_search_224 : decode cX2_search 224 = .ok (.iload 10, 2) := by decide +kernel
theorem dX2_search_226 : decode cX2_search 226 = .ok (.iadd, 1) := by decide +kernel
theorem dX2_search_227 : decode cX2_search 227 = .ok (.invokestatic 66, 3) := by decide +kernel
theorem dX2_search_230 : decode cX2_search 230 = .ok (.invokevirtual 48, 3) := by decide +kernel
theorem dX2_search_233 : decode cX2_search 233 = .ok (.goto 46, 3) := by decide +kernel
theorem dX2_search_236 : decode cX2_search 236 = .ok (.iload 12, 2) := by decide +kernel
theorem dX2_search_238 : decode cX2_search 238 = .ok (.iconst (-1), 1) := by decide +kernel
theorem dX2_search_239 : decode cX2_search 239 = .ok (.if_icmp .eq 40, 3) := by decide +kernel
theorem dX2_search_242 : decode cX2_search 242 = .ok (.aload_n 0, 1) := by decide +kernel
theorem dX2_search_243 : decode cX2_search 243 = .ok (.aload_n 1, 1) := by decide +kernel
theorem dX2_search_244 : decode cX2_search 244 = .ok (.iload 8, 2) := by decide +kernel
theorem dX2_search_246 : decode cX2_search 246 = .ok (.iload_n 3, 1) := by decide +kernel
theorem dX2_search_247 : decode cX2_search 247 = .ok (.iload 11, 2) := by decide +kernel
theorem dX2_search_249 : decode cX2_search 249 = .ok (.iload 5, 2) := by decide +kernel
theorem dX2_search_251 : decode cX2_search 251 = .ok (.iconst 1, 1) := by decide +kernel
theorem dX2_search_252 : decode cX2_search 252 = .ok (.iload 12, 2) := by decide +kernel
theorem dX2_search_254 : decode cX2_search 254 = .ok (.ishl, 1) := by decide +kernel
theorem dX2_search_255 : decode cX2_search 255 = .ok (.ior, 1) := by decide +kernel
theorem dX2_search_256 : decode cX2_search 256 = .ok (.iload 6, 2) := by decide +kernel
theorem dX2_search_258 : decode cX2_search 258 = .ok (.aload_n 1, 1) := by decide +kernel
theorem dX2_search_259 : decode cX2_search 259 = .ok (.getfield 78, 3) := by decide +kernel
theorem dX2_search_262 : decode cX2_search 262 = .ok (.iload 12, 2) := by decide +kernel
theorem dX2_search_264 : decode cX2_search 264 = .ok (.iaload, 1) := by decide +kernel
theorem dX2_search_265 : decode cX2_search 265 = .ok (.iadd, 1) := by decide +kernel
theorem dX2_search_266 : decode cX2_search 266 = .ok (.iload 7, 2) := by decide +kernel
theorem dX2_search_268 : decode cX2_search 268 = .ok (.bipush 20, 2) := by decide +kernel
theorem dX2_search_270 : decode cX2_search 270 = .ok (.iload 10, 2) := by decide +kernel
theorem dX2_search_272 : decode cX2_search 272 = .ok (.iadd, 1) := by decide +kernel
theorem dX2_search_273 : decode cX2_search 273 = .ok (.invokestatic 66, 3) := by decide +kernel
theorem dX2_search_276 : decode cX2_search 276 = .ok (.invokevirtual 48, 3) := by decide +kernel
theorem dX2_search_279 : decode cX2_search 279 = .ok (.iinc 10 1, 3) := by decide +kernel
theorem dX2_search_282 : decode cX2_search 282 = .ok (.goto (-182), 3) := by decide +kernel
theorem dX2_search_285 : decode cX2_search 285 = .ok (.return_, 1) := by decide +kernel
theorem dX2_firstOf_0 : decode cX2_firstOf 0 = .ok (.iload_n 0, 1) := by decide +kernel
theorem dX2_firstOf_1 : decode cX2_firstOf 1 = .ok (.iconst (-1), 1) := by decide +kernel
theorem dX2_firstOf_2 : decode cX2_firstOf 2 = .ok (.if_icmp .ne 7, 3) := by decide +kernel
theorem dX2_firstOf_5 : decode cX2_firstOf 5 = .ok (.iload_n 1, 1) := by decide +kernel
theorem dX2_firstOf_6 : decode cX2_firstOf 6 = .ok (.goto 4, 3) := by decide +kernel
theorem dX2_firstOf_9 : decode cX2_firstOf 9 = .ok (.iload_n 0, 1) := by decide +kernel
theorem dX2_firstOf_10 : decode cX2_firstOf 10 = .ok (.ireturn, 1) := by decide +kernel
theorem dX2_rankOf_0 : decode cX2_rankOf 0 = .ok (.iload_n 0, 1) := by decide +kernel
theorem dX2_rankOf_1 : decode cX2_rankOf 1 = .ok (.bipush 64, 2) := by decide +kernel
theorem dX2_rankOf_3 : decode cX2_rankOf 3 = .ok (.imul, 1) := by decide +kernel
theorem dX2_rankOf_4 : decode cX2_rankOf 4 = .ok (.iload_n 1, 1) := by decide +kernel
theorem dX2_rankOf_5 : decode cX2_rankOf 5 = .ok (.iadd, 1) := by decide +kernel
theorem dX2_rankOf_6 : decode cX2_rankOf 6 = .ok (.ireturn, 1) := by decide +kernel
theorem dX2_take_0 : decode cX2_take 0 = .ok (.aload_n 0, 1) := by decide +kernel
theorem dX2_take_1 : decode cX2_take 1 = .ok (.iload_n 1, 1) := by decide +kernel
theorem dX2_take_2 : decode cX2_take 2 = .ok (.iload_n 2, 1) := by decide +kernel
theorem dX2_take_3 : decode cX2_take 3 = .ok (.invokestatic 58, 3) := by decide +kernel
theorem dX2_take_6 : decode cX2_take 6 = .ok (.putfield 16, 3) := by decide +kernel
theorem dX2_take_9 : decode cX2_take 9 = .ok (.aload_n 0, 1) := by decide +kernel
theorem dX2_take_10 : decode cX2_take 10 = .ok (.iload_n 1, 1) := by decide +kernel
theorem dX2_take_11 : decode cX2_take 11 = .ok (.putfield 81, 3) := by decide +kernel
theorem dX2_take_14 : decode cX2_take 14 = .ok (.aload_n 0, 1) := by decide +kernel
theorem dX2_take_15 : decode cX2_take 15 = .ok (.iload_n 2, 1) := by decide +kernel
theorem dX2_take_16 : decode cX2_take 16 = .ok (.putfield 84, 3) := by decide +kernel
theorem dX2_take_19 : decode cX2_take 19 = .ok (.aload_n 0, 1) := by decide +kernel
theorem dX2_take_20 : decode cX2_take 20 = .ok (.iload_n 3, 1) := by decide +kernel
theorem dX2_take_21 : decode cX2_take 21 = .ok (.putfield 87, 3) := by decide +kernel
theorem dX2_take_24 : decode cX2_take 24 = .ok (.return_, 1) := by decide +kernel
theorem dX3_init_0 : decode cX3_init 0 = .ok (.aload_n 0, 1) := by decide +kernel
theorem dX3_init_1 : decode cX3_init 1 = .ok (.invokespecial 3, 3) := by decide +kernel
theorem dX3_init_4 : decode cX3_init 4 = .ok (.aload_n 0, 1) := by decide +kernel
theorem dX3_init_5 : decode cX3_init 5 = .ok (.sipush 160, 3) := by decide +kernel
theorem dX3_init_8 : decode cX3_init 8 = .ok (.newarray .int, 2) := by decide +kernel
theorem dX3_init_10 : decode cX3_init 10 = .ok (.putfield 9, 3) := by decide +kernel
theorem dX3_init_13 : decode cX3_init 13 = .ok (.aload_n 0, 1) := by decide +kernel
theorem dX3_init_14 : decode cX3_init 14 = .ok (.iconst 3, 1) := by decide +kernel
theorem dX3_init_15 : decode cX3_init 15 = .ok (.newarray .int, 2) := by decide +kernel
theorem dX3_init_17 : decode cX3_init 17 = .ok (.putfield 15, 3) := by decide +kernel
theorem dX3_init_20 : decode cX3_init 20 = .ok (.return_, 1) := by decide +kernel
theorem dX3_readOnto_0 : decode cX3_readOnto 0 = .ok (.aload_n 0, 1) := by decide +kernel
theorem dX3_readOnto_1 : decode cX3_readOnto 1 = .ok (.iconst 0, 1) := by decide +kernel
theorem dX3_readOnto_2 : decode cX3_readOnto 2 = .ok (.putfield 18, 3) := by decide +kernel
theorem dX3_readOnto_5 : decode cX3_readOnto 5 = .ok (.aload_n 0, 1) := by decide +kernel
theorem dX3_readOnto_6 : decode cX3_readOnto 6 = .ok (.iconst 0, 1) := by decide +kernel
theorem dX3_readOnto_7 : decode cX3_readOnto 7 = .ok (.putfield 22, 3) := by decide +kernel
theorem dX3_readOnto_10 : decode cX3_readOnto 10 = .ok (.iconst 0, 1) := by decide +kernel
theorem dX3_readOnto_11 : decode cX3_readOnto 11 = .ok (.istore_n 2, 1) := by decide +kernel
theorem dX3_readOnto_12 : decode cX3_readOnto 12 = .ok (.iload_n 2, 1) := by decide +kernel
theorem dX3_readOnto_13 : decode cX3_readOnto 13 = .ok (.bipush 14, 2) := by decide +kernel
theorem dX3_readOnto_15 : decode cX3_readOnto 15 = .ok (.if_icmp .ge 71, 3) := by decide +kernel
theorem dX3_readOnto_18 : decode cX3_readOnto 18 = .ok (.aload_n 0, 1) := by decide +kernel
theorem dX3_readOnto_19 : decode cX3_readOnto 19 = .ok (.invokevirtual 25, 3) := by decide +kernel
theorem dX3_readOnto_22 : decode cX3_readOnto 22 = .ok (.aload_n 0, 1) := by decide +kernel
theorem dX3_readOnto_23 : decode cX3_readOnto 23 = .ok (.aload_n 1, 1) := by decide +kernel
theorem dX3_readOnto_24 : decode cX3_readOnto 24 = .ok (.invokevirtual 28, 3) := by decide +kernel
theorem dX3_readOnto_27 : decode cX3_readOnto 27 = .ok (.ifCond .ne 8, 3) := by decide +kernel
theorem dX3_readOnto_30 : decode cX3_readOnto 30 = .ok (.aload_n 0, 1) := by decide +kernel
theorem dX3_readOnto_31 : decode cX3_readOnto 31 = .ok (.getfield 32, 3) := by decide +kernel
theorem dX3_readOnto_34 : decode cX3_readOnto 34 = .ok (.ireturn, 1) := by decide +kernel
theorem dX3_readOnto_35 : decode cX3_readOnto 35 = .ok (.aload_n 0, 1) := by decide +kernel
theorem dX3_readOnto_36 : decode cX3_readOnto 36 = .ok (.dup, 1) := by decide +kernel
theorem dX3_readOnto_37 : decode cX3_readOnto 37 = .ok (.getfield 18, 3) := by decide +kernel
theorem dX3_readOnto_40 : decode cX3_readOnto 40 = .ok (.iconst 1, 1) := by decide +kernel
theorem dX3_readOnto_41 : decode cX3_readOnto 41 = .ok (.iadd, 1) := by decide +kernel
theorem dX3_readOnto_42 : decode cX3_readOnto 42 = .ok (.putfield 18, 3) := by decide +kernel
theorem dX3_readOnto_45 : decode cX3_readOnto 45 = .ok (.aload_n 0, 1) := by decide +kernel
theorem dX3_readOnto_46 : decode cX3_readOnto 46 = .ok (.invokevirtual 25, 3) := by decide +kernel
theorem dX3_readOnto_49 : decode cX3_readOnto 49 = .ok (.aload_n 0, 1) := by decide +kernel
theorem dX3_readOnto_50 : decode cX3_readOnto 50 = .ok (.getfield 32, 3) := by decide +kernel
theorem dX3_readOnto_53 : decode cX3_readOnto 53 = .ok (.aload_n 0, 1) := by decide +kernel
theorem dX3_readOnto_54 : decode cX3_readOnto 54 = .ok (.getfield 35, 3) := by decide +kernel
theorem dX3_readOnto_57 : decode cX3_readOnto 57 = .ok (.if_icmp .lt 5, 3) := by decide +kernel
theorem dX3_readOnto_60 : decode cX3_readOnto 60 = .ok (.iconst (-1), 1) := by decide +kernel
theorem dX3_readOnto_61 : decode cX3_readOnto 61 = .ok (.ireturn, 1) := by decide +kernel
theorem dX3_readOnto_62 : decode cX3_readOnto 62 = .ok (.aload_n 0, 1) := by decide +kernel
theorem dX3_readOnto_63 : decode cX3_readOnto 63 = .ok (.aload_n 0, 1) := by decide +kernel
theorem dX3_readOnto_64 : decode cX3_readOnto 64 = .ok (.getfield 32, 3) := by decide +kernel
theorem dX3_readOnto_67 : decode cX3_readOnto 67 = .ok (.invokevirtual 38, 3) := by decide +kernel
theorem dX3_readOnto_70 : decode cX3_readOnto 70 = .ok (.bipush 59, 2) := by decide +kernel
theorem dX3_readOnto_72 : decode cX3_readOnto 72 = .ok (.if_icmp .eq 8, 3) := by decide +kernel
theorem dX3_readOnto_75 : decode cX3_readOnto 75 = .ok (.aload_n 0, 1) := by decide +kernel
theorem dX3_readOnto_76 : decode cX3_readOnto 76 = .ok (.getfield 32, 3) := by decide +kernel
theorem dX3_readOnto_79 : decode cX3_readOnto 79 = .ok (.ireturn, 1) := by decide +kernel
theorem dX3_readOnto_80 : decode cX3_readOnto 80 = .ok (.iinc 2 1, 3) := by decide +kernel
theorem dX3_readOnto_83 : decode cX3_readOnto 83 = .ok (.goto (-71), 3) := by decide +kernel
theorem dX3_readOnto_86 : decode cX3_readOnto 86 = .ok (.aload_n 0, 1) := by decide +kernel
theorem dX3_readOnto_87 : decode cX3_readOnto 87 = .ok (.getfield 32, 3) := by decide +kernel
theorem dX3_readOnto_90 : decode cX3_readOnto 90 = .ok (.ireturn, 1) := by decide +kernel
theorem dX3_readClause_0 : decode cX3_readClause 0 = .ok (.aload_n 0, 1) := by decide +kernel
theorem dX3_readClause_1 : decode cX3_readClause 1 = .ok (.invokevirtual 42, 3) := by decide +kernel
theorem dX3_readClause_4 : decode cX3_readClause 4 = .ok (.istore_n 2, 1) := by decide +kernel
theorem dX3_readClause_5 : decode cX3_readClause 5 = .ok (.iload_n 2, 1) := by decide +kernel
theorem dX3_readClause_6 : decode cX3_readClause 6 = .ok (.iconst (-1), 1) := by decide +kernel
theorem dX3_readClause_7 : decode cX3_readClause 7 = .ok (.if_icmp .eq 17, 3) := by decide +kernel
theorem dX3_readClause_10 : decode cX3_readClause 10 = .ok (.iload_n 2, 1) := by decide +kernel
theorem dX3_readClause_11 : decode cX3_readClause 11 = .ok (.iconst 4, 1) := by decide +kernel
theorem dX3_readClause_12 : decode cX3_readClause 12 = .ok (.if_icmp .gt 14, 3) := by decide +kernel
theorem dX3_readClause_15 : decode cX3_readClause 15 = .ok (.aload_n 1, 1) := by decide +kernel
theorem dX3_readClause_16 : decode cX3_readClause 16 = .ok (.getfield 46, 3) := by decide +kernel
theorem dX3_readClause_19 : decode cX3_readClause 19 = .ok (.bipush 8, 2) := by decide +kernel
theorem dX3_readClause_21 : decode cX3_readClause 21 = .ok (.if_icmp .lt 5, 3) := by decide +kernel
theorem dX3_readClause_24 : decode cX3_readClause 24 = .ok (.iconst 0, 1) := by decide +kernel
theorem dX3_readClause_25 : decode cX3_readClause 25 = .ok (.ireturn, 1) := by decide +kernel
theorem dX3_readClause_26 : decode cX3_readClause 26 = .ok (.iconst 0, 1) := by decide +kernel
theorem dX3_readClause_27 : decode cX3_readClause 27 = .ok (.istore_n 3, 1) := by decide +kernel
theorem dX3_readClause_28 : decode cX3_readClause 28 = .ok (.iload_n 3, 1) := by decide +kernel
theorem dX3_readClause_29 : decode cX3_readClause 29 = .ok (.getstatic 51, 3) := by decide +kernel
theorem dX3_readClause_32 : decode cX3_readClause 32 = .ok (.iload_n 2, 1) := by decide +kernel
theorem dX3_readClause_33 : decode cX3_readClause 33 = .ok (.iaload, 1) := by decide +kernel
theorem dX3_readClause_34 : decode cX3_readClause 34 = .ok (.if_icmp .ge 58, 3) := by decide +kernel
theorem dX3_readClause_37 : decode cX3_readClause 37 = .ok (.iload_n 3, 1) := by decide +kernel
theorem dX3_readClause_38 : decode cX3_readClause 38 = .ok (.aload_n 0, 1) := by decide +kernel
theorem dX3_readClause_39 : decode cX3_readClause 39 = .ok (.getfield 15, 3) := by decide +kernel
theorem dX3_readClause_42 : decode cX3_readClause 42 = .ok (.arraylength, 1) := by decide +kernel
theorem dX3_readClause_43 : decode cX3_readClause 43 = .ok (.if_icmp .ge 49, 3) := by decide +kernel
theorem dX3_readClause_46 : decode cX3_readClause 46 = .ok (.aload_n 0, 1) := by decide +kernel
theorem dX3_readClause_47 : decode cX3_readClause 47 = .ok (.invokevirtual 25, 3) := by decide +kernel
theorem dX3_readClause_50 : decode cX3_readClause 50 = .ok (.aload_n 0, 1) := by decide +kernel
theorem dX3_readClause_51 : decode cX3_readClause 51 = .ok (.invokevirtual 54, 3) := by decide +kernel
theorem dX3_readClause_54 : decode cX3_readClause 54 = .ok (.istore 4, 2) := by decide +kernel
theorem dX3_readClause_56 : decode cX3_readClause 56 = .ok (.iload 4, 2) := by decide +kernel
theorem dX3_readClause_58 : decode cX3_readClause 58 = .ok (.iload_n 2, 1) := by decide +kernel
theorem dX3_readClause_59 : decode cX3_readClause 59 = .ok (.iload_n 3, 1) := by decide +kernel
theorem dX3_readClause_60 : decode cX3_readClause 60 = .ok (.invokestatic 57, 3) := by decide +kernel
theorem dX3_readClause_63 : decode cX3_readClause 63 = .ok (.if_icmp .lt 13, 3) := by decide +kernel
theorem dX3_readClause_66 : decode cX3_readClause 66 = .ok (.iload 4, 2) := by decide +kernel
theorem dX3_readClause_68 : decode cX3_readClause 68 = .ok (.iload_n 2, 1) := by decide +kernel
theorem dX3_readClause_69 : decode cX3_readClause 69 = .ok (.iload_n 3, 1) := by decide +kernel
theorem dX3_readClause_70 : decode cX3_readClause 70 = .ok (.invokestatic 61, 3) := by decide +kernel
theorem dX3_readClause_73 : decode cX3_readClause 73 = .ok (.if_icmp .le 5, 3) := by decide +kernel
theorem dX3_readClause_76 : decode cX3_readClause 76 = .ok (.iconst 0, 1) := by decide +kernel
theorem dX3_readClause_77 : decode cX3_readClause 77 = .ok (.ireturn, 1) := by decide +kernel
theorem dX3_readClause_78 : decode cX3_readClause 78 = .ok (.aload_n 0, 1) := by decide +kernel
theorem dX3_readClause_79 : decode cX3_readClause 79 = .ok (.getfield 15, 3) := by decide +kernel
theorem dX3_readClause_82 : decode cX3_readClause 82 = .ok (.iload_n 3, 1) := by decide +kernel
theorem dX3_readClause_83 : decode cX3_readClause 83 = .ok (.iload 4, 2) := by decide +kernel
theorem dX3_readClause_85 : decode cX3_readClause 85 = .ok (.iastore, 1) := by decide +kernel
theorem dX3_readClause_86 : decode cX3_readClause 86 = .ok (.iinc 3 1, 3) := by decide +kernel
theorem dX3_readClause_89 : decode cX3_readClause 89 = .ok (.goto (-61), 3) := by decide +kernel
theorem dX3_readClause_92 : decode cX3_readClause 92 = .ok (.aload_n 0, 1) := by decide +kernel
theorem dX3_readClause_93 : decode cX3_readClause 93 = .ok (.aload_n 1, 1) := by decide +kernel
theorem dX3_readClause_94 : decode cX3_readClause 94 = .ok (.iload_n 2, 1) := by decide +kernel
theorem dX3_readClause_95 : decode cX3_readClause 95 = .ok (.invokevirtual 64, 3) := by decide +kernel
theorem dX3_readClause_98 : decode cX3_readClause 98 = .ok (.iconst 1, 1) := by decide +kernel
theorem dX3_readClause_99 : decode cX3_readClause 99 = .ok (.ireturn, 1) := by decide +kernel
theorem dX3_doClause_0 : decode cX3_doClause 0 = .ok (.iload_n 2, 1) := by decide +kernel
theorem dX3_doClause_1 : decode cX3_doClause 1 = .ok (.tableswitch 112 5 10 #[39, 58, 71, 84, 97, 104], 39) := by decide +kernel
theorem dX3_doClause_40 : decode cX3_doClause 40 = .ok (.aload_n 1, 1) := by decide +kernel
theorem dX3_doClause_41 : decode cX3_doClause 41 = .ok (.aload_n 0, 1) := by decide +kernel
theorem dX3_doClause_42 : decode cX3_doClause 42 = .ok (.getfield 15, 3) := by decide +kernel
theorem dX3_doClause_45 : decode cX3_doClause 45 = .ok (.iconst 0, 1) := by decide +kernel
theorem dX3_doClause_46 : decode cX3_doClause 46 = .ok (.iaload, 1) := by decide +kernel
theorem dX3_doClause_47 : decode cX3_doClause 47 = .ok (.aload_n 0, 1) := by decide +kernel
theorem dX3_doClause_48 : decode cX3_doClause 48 = .ok (.getfield 15, 3) := by decide +kernel
theorem dX3_doClause_51 : decode cX3_doClause 51 = .ok (.iconst 1, 1) := by decide +kernel
theorem dX3_doClause_52 : decode cX3_doClause 52 = .ok (.iaload, 1) := by decide +kernel
theorem dX3_doClause_53 : decode cX3_doClause 53 = .ok (.invokestatic 68, 3) := by decide +kernel
theorem dX3_doClause_56 : decode cX3_doClause 56 = .ok (.goto 80, 3) := by decide +kernel
theorem dX3_doClause_59 : decode cX3_doClause 59 = .ok (.aload_n 1, 1) := by decide +kernel
theorem dX3_doClause_60 : decode cX3_doClause 60 = .ok (.aload_n 0, 1) := by decide +kernel
theorem dX3_doClause_61 : decode cX3_doClause 61 = .ok (.getfield 15, 3) := by decide +kernel
theorem dX3_doClause_64 : decode cX3_doClause 64 = .ok (.iconst 0, 1) := by decide +kernel
theorem dX3_doClause_65 : decode cX3_doClause 65 = .ok (.iaload, 1) := by decide +kernel
theorem dX3_doClause_66 : decode cX3_doClause 66 = .ok (.putfield 72, 3) := by decide +kernel
theorem dX3_doClause_69 : decode cX3_doClause 69 = .ok (.goto 67, 3) := by decide +kernel
theorem dX3_doClause_72 : decode cX3_doClause 72 = .ok (.aload_n 1, 1) := by decide +kernel
theorem dX3_doClause_73 : decode cX3_doClause 73 = .ok (.aload_n 0, 1) := by decide +kernel
theorem dX3_doClause_74 : decode cX3_doClause 74 = .ok (.getfield 15, 3) := by decide +kernel
theorem dX3_doClause_77 : decode cX3_doClause 77 = .ok (.iconst 0, 1) := by decide +kernel
theorem dX3_doClause_78 : decode cX3_doClause 78 = .ok (.iaload, 1) := by decide +kernel
theorem dX3_doClause_79 : decode cX3_doClause 79 = .ok (.putfield 75, 3) := by decide +kernel
theorem dX3_doClause_82 : decode cX3_doClause 82 = .ok (.goto 54, 3) := by decide +kernel
theorem dX3_doClause_85 : decode cX3_doClause 85 = .ok (.aload_n 1, 1) := by decide +kernel
theorem dX3_doClause_86 : decode cX3_doClause 86 = .ok (.aload_n 0, 1) := by decide +kernel
theorem dX3_doClause_87 : decode cX3_doClause 87 = .ok (.getfield 15, 3) := by decide +kernel
theorem dX3_doClause_90 : decode cX3_doClause 90 = .ok (.iconst 0, 1) := by decide +kernel
theorem dX3_doClause_91 : decode cX3_doClause 91 = .ok (.iaload, 1) := by decide +kernel
theorem dX3_doClause_92 : decode cX3_doClause 92 = .ok (.putfield 78, 3) := by decide +kernel
theorem dX3_doClause_95 : decode cX3_doClause 95 = .ok (.goto 41, 3) := by decide +kernel
theorem dX3_doClause_98 : decode cX3_doClause 98 = .ok (.aload_n 1, 1) := by decide +kernel
theorem dX3_doClause_99 : decode cX3_doClause 99 = .ok (.invokevirtual 81, 3) := by decide +kernel
theorem dX3_doClause_102 : decode cX3_doClause 102 = .ok (.goto 34, 3) := by decide +kernel
theorem dX3_doClause_105 : decode cX3_doClause 105 = .ok (.aload_n 1, 1) := by decide +kernel
theorem dX3_doClause_106 : decode cX3_doClause 106 = .ok (.iconst 0, 1) := by decide +kernel
theorem dX3_doClause_107 : decode cX3_doClause 107 = .ok (.putfield 46, 3) := by decide +kernel
theorem dX3_doClause_110 : decode cX3_doClause 110 = .ok (.goto 26, 3) := by decide +kernel
theorem dX3_doClause_113 : decode cX3_doClause 113 = .ok (.aload_n 1, 1) := by decide +kernel
theorem dX3_doClause_114 : decode cX3_doClause 114 = .ok (.iload_n 2, 1) := by decide +kernel
theorem dX3_doClause_115 : decode cX3_doClause 115 = .ok (.aload_n 0, 1) := by decide +kernel
theorem dX3_doClause_116 : decode cX3_doClause 116 = .ok (.getfield 15, 3) := by decide +kernel
theorem dX3_doClause_119 : decode cX3_doClause 119 = .ok (.iconst 0, 1) := by decide +kernel
theorem dX3_doClause_120 : decode cX3_doClause 120 = .ok (.iaload, 1) := by decide +kernel
theorem dX3_doClause_121 : decode cX3_doClause 121 = .ok (.aload_n 0, 1) := by decide +kernel
theorem dX3_doClause_122 : decode cX3_doClause 122 = .ok (.getfield 15, 3) := by decide +kernel
theorem dX3_doClause_125 : decode cX3_doClause 125 = .ok (.iconst 1, 1) := by decide +kernel
theorem dX3_doClause_126 : decode cX3_doClause 126 = .ok (.iaload, 1) := by decide +kernel
theorem dX3_doClause_127 : decode cX3_doClause 127 = .ok (.aload_n 0, 1) := by decide +kernel
theorem dX3_doClause_128 : decode cX3_doClause 128 = .ok (.getfield 15, 3) := by decide +kernel
theorem dX3_doClause_131 : decode cX3_doClause 131 = .ok (.iconst 2, 1) := by decide +kernel
theorem dX3_doClause_132 : decode cX3_doClause 132 = .ok (.iaload, 1) := by decide +kernel
theorem dX3_doClause_133 : decode cX3_doClause 133 = .ok (.invokevirtual 84, 3) := by decide +kernel
theorem dX3_doClause_136 : decode cX3_doClause 136 = .ok (.return_, 1) := by decide +kernel
theorem dX3_setBears_0 : decode cX3_setBears 0 = .ok (.iload_n 1, 1) := by decide +kernel
theorem dX3_setBears_1 : decode cX3_setBears 1 = .ok (.ifCond .lt 15, 3) := by decide +kernel
theorem dX3_setBears_4 : decode cX3_setBears 4 = .ok (.iload_n 1, 1) := by decide +kernel
theorem dX3_setBears_5 : decode cX3_setBears 5 = .ok (.iconst 3, 1) := by decide +kernel
theorem dX3_setBears_6 : decode cX3_setBears 6 = .ok (.if_icmp .ge 10, 3) := by decide +kernel
theorem dX3_setBears_9 : decode cX3_setBears 9 = .ok (.aload_n 0, 1) := by decide +kernel
theorem dX3_setBears_10 : decode cX3_setBears 10 = .ok (.getfield 88, 3) := by decide +kernel
theorem dX3_setBears_13 : decode cX3_setBears 13 = .ok (.iload_n 1, 1) := by decide +kernel
theorem dX3_setBears_14 : decode cX3_setBears 14 = .ok (.iload_n 2, 1) := by decide +kernel
theorem dX3_setBears_15 : decode cX3_setBears 15 = .ok (.iastore, 1) := by decide +kernel
theorem dX3_setBears_16 : decode cX3_setBears 16 = .ok (.return_, 1) := by decide +kernel
theorem dX3_leastOf_0 : decode cX3_leastOf 0 = .ok (.iload_n 0, 1) := by decide +kernel
theorem dX3_leastOf_1 : decode cX3_leastOf 1 = .ok (.iconst 4, 1) := by decide +kernel
theorem dX3_leastOf_2 : decode cX3_leastOf 2 = .ok (.if_icmp .gt 11, 3) := by decide +kernel
theorem dX3_leastOf_5 : decode cX3_leastOf 5 = .ok (.iload_n 1, 1) := by decide +kernel
theorem dX3_leastOf_6 : decode cX3_leastOf 6 = .ok (.ifCond .ne 7, 3) := by decide +kernel
theorem dX3_leastOf_9 : decode cX3_leastOf 9 = .ok (.iconst 1, 1) := by decide +kernel
theorem dX3_leastOf_10 : decode cX3_leastOf 10 = .ok (.goto 4, 3) := by decide +kernel
theorem dX3_leastOf_13 : decode cX3_leastOf 13 = .ok (.iconst 0, 1) := by decide +kernel
theorem dX3_leastOf_14 : decode cX3_leastOf 14 = .ok (.ireturn, 1) := by decide +kernel
theorem dX3_mostOf_0 : decode cX3_mostOf 0 = .ok (.iload_n 0, 1) := by decide +kernel
theorem dX3_mostOf_1 : decode cX3_mostOf 1 = .ok (.tableswitch 49 5 8 #[31, 42, 44, 46], 31) := by decide +kernel
theorem dX3_mostOf_32 : decode cX3_mostOf 32 = .ok (.iload_n 1, 1) := by decide +kernel
theorem dX3_mostOf_33 : decode cX3_mostOf 33 = .ok (.ifCond .ne 7, 3) := by decide +kernel
theorem dX3_mostOf_36 : decode cX3_mostOf 36 = .ok (.iconst 2, 1) := by decide +kernel
theorem dX3_mostOf_37 : decode cX3_mostOf 37 = .ok (.goto 5, 3) := by decide +kernel
theorem dX3_mostOf_40 : decode cX3_mostOf 40 = .ok (.bipush 99, 2) := by decide +kernel
theorem dX3_mostOf_42 : decode cX3_mostOf 42 = .ok (.ireturn, 1) := by decide +kernel
theorem dX3_mostOf_43 : decode cX3_mostOf 43 = .ok (.iconst 4, 1) := by decide +kernel
theorem dX3_mostOf_44 : decode cX3_mostOf 44 = .ok (.ireturn, 1) := by decide +kernel
theorem dX3_mostOf_45 : decode cX3_mostOf 45 = .ok (.iconst 4, 1) := by decide +kernel
theorem dX3_mostOf_46 : decode cX3_mostOf 46 = .ok (.ireturn, 1) := by decide +kernel
theorem dX3_mostOf_47 : decode cX3_mostOf 47 = .ok (.bipush 24, 2) := by decide +kernel
theorem dX3_mostOf_49 : decode cX3_mostOf 49 = .ok (.ireturn, 1) := by decide +kernel
theorem dX3_mostOf_50 : decode cX3_mostOf 50 = .ok (.iload_n 1, 1) := by decide +kernel
theorem dX3_mostOf_51 : decode cX3_mostOf 51 = .ok (.ifCond .ne 8, 3) := by decide +kernel
theorem dX3_mostOf_54 : decode cX3_mostOf 54 = .ok (.bipush 20, 2) := by decide +kernel
theorem dX3_mostOf_56 : decode cX3_mostOf 56 = .ok (.goto 14, 3) := by decide +kernel
theorem dX3_mostOf_59 : decode cX3_mostOf 59 = .ok (.iload_n 1, 1) := by decide +kernel
theorem dX3_mostOf_60 : decode cX3_mostOf 60 = .ok (.iconst 1, 1) := by decide +kernel
theorem dX3_mostOf_61 : decode cX3_mostOf 61 = .ok (.if_icmp .ne 8, 3) := by decide +kernel
theorem dX3_mostOf_64 : decode cX3_mostOf 64 = .ok (.bipush 40, 2) := by decide +kernel
theorem dX3_mostOf_66 : decode cX3_mostOf 66 = .ok (.goto 4, 3) := by decide +kernel
theorem dX3_mostOf_69 : decode cX3_mostOf 69 = .ok (.iconst 2, 1) := by decide +kernel
theorem dX3_mostOf_70 : decode cX3_mostOf 70 = .ok (.ireturn, 1) := by decide +kernel
theorem dX3_wordText_0 : decode cX3_wordText 0 = .ok (.iload_n 0, 1) := by decide +kernel
theorem dX3_wordText_1 : decode cX3_wordText 1 = .ok (.tableswitch 85 0 9 #[55, 58, 61, 64, 67, 70, 73, 76, 79, 82], 55) := by decide +kernel
theorem dX3_wordText_56 : decode cX3_wordText 56 = .ok (.ldc 91, 2) := by decide +kernel
theorem dX3_wordText_58 : decode cX3_wordText 58 = .ok (.areturn, 1) := by decide +kernel
theorem dX3_wordText_59 : decode cX3_wordText 59 = .ok (.ldc 93, 2) := by decide +kernel
theorem dX3_wordText_61 : decode cX3_wordText 61 = .ok (.areturn, 1) := by decide +kernel
theorem dX3_wordText_62 : decode cX3_wordText 62 = .ok (.ldc 95, 2) := by decide +kernel
theorem dX3_wordText_64 : decode cX3_wordText 64 = .ok (.areturn, 1) := by decide +kernel
theorem dX3_wordText_65 : decode cX3_wordText 65 = .ok (.ldc 97, 2) := by decide +kernel
theorem dX3_wordText_67 : decode cX3_wordText 67 = .ok (.areturn, 1) := by decide +kernel
theorem dX3_wordText_68 : decode cX3_wordText 68 = .ok (.ldc 99, 2) := by decide +kernel
theorem dX3_wordText_70 : decode cX3_wordText 70 = .ok (.areturn, 1) := by decide +kernel
theorem dX3_wordText_71 : decode cX3_wordText 71 = .ok (.ldc 101, 2) := by decide +kernel
theorem dX3_wordText_73 : decode cX3_wordText 73 = .ok (.areturn, 1) := by decide +kernel
theorem dX3_wordText_74 : decode cX3_wordText 74 = .ok (.ldc 102, 2) := by decide +kernel
theorem dX3_wordText_76 : decode cX3_wordText 76 = .ok (.areturn, 1) := by decide +kernel
theorem dX3_wordText_77 : decode cX3_wordText 77 = .ok (.ldc 103, 2) := by decide +kernel
theorem dX3_wordText_79 : decode cX3_wordText 79 = .ok (.areturn, 1) := by decide +kernel
theorem dX3_wordText_80 : decode cX3_wordText 80 = .ok (.ldc 104, 2) := by decide +kernel
theorem dX3_wordText_82 : decode cX3_wordText 82 = .ok (.areturn, 1) := by decide +kernel
theorem dX3_wordText_83 : decode cX3_wordText 83 = .ok (.ldc 105, 2) := by decide +kernel
theorem dX3_wordText_85 : decode cX3_wordText 85 = .ok (.areturn, 1) := by decide +kernel
theorem dX3_wordText_86 : decode cX3_wordText 86 = .ok (.ldc 107, 2) := by decide +kernel
theorem dX3_wordText_88 : decode cX3_wordText 88 = .ok (.areturn, 1) := by decide +kernel
theorem dX3_readWord_0 : decode cX3_readWord 0 = .ok (.iconst 0, 1) := by decide +kernel
theorem dX3_readWord_1 : decode cX3_readWord 1 = .ok (.istore_n 1, 1) := by decide +kernel
theorem dX3_readWord_2 : decode cX3_readWord 2 = .ok (.iload_n 1, 1) := by decide +kernel
theorem dX3_readWord_3 : decode cX3_readWord 3 = .ok (.bipush 11, 2) := by decide +kernel
theorem dX3_readWord_5 : decode cX3_readWord 5 = .ok (.if_icmp .ge 22, 3) := by decide +kernel
theorem dX3_readWord_8 : decode cX3_readWord 8 = .ok (.aload_n 0, 1) := by decide +kernel
theorem dX3_readWord_9 : decode cX3_readWord 9 = .ok (.iload_n 1, 1) := by decide +kernel
theorem dX3_readWord_10 : decode cX3_readWord 10 = .ok (.invokestatic 109, 3) := by decide +kernel
theorem dX3_readWord_13 : decode cX3_readWord 13 = .ok (.invokevirtual 113, 3) := by decide +kernel
theorem dX3_readWord_16 : decode cX3_readWord 16 = .ok (.ifCond .eq 5, 3) := by decide +kernel
theorem dX3_readWord_19 : decode cX3_readWord 19 = .ok (.iload_n 1, 1) := by decide +kernel
theorem dX3_readWord_20 : decode cX3_readWord 20 = .ok (.ireturn, 1) := by decide +kernel
theorem dX3_readWord_21 : decode cX3_readWord 21 = .ok (.iinc 1 1, 3) := by decide +kernel
theorem dX3_readWord_24 : decode cX3_readWord 24 = .ok (.goto (-22), 3) := by decide +kernel
theorem dX3_readWord_27 : decode cX3_readWord 27 = .ok (.iconst (-1), 1) := by decide +kernel
theorem dX3_readWord_28 : decode cX3_readWord 28 = .ok (.ireturn, 1) := by decide +kernel
theorem dX3_isToken_0 : decode cX3_isToken 0 = .ok (.aload_n 0, 1) := by decide +kernel
theorem dX3_isToken_1 : decode cX3_isToken 1 = .ok (.getfield 22, 3) := by decide +kernel
theorem dX3_isToken_4 : decode cX3_isToken 4 = .ok (.aload_n 0, 1) := by decide +kernel
theorem dX3_isToken_5 : decode cX3_isToken 5 = .ok (.getfield 32, 3) := by decide +kernel
theorem dX3_isToken_8 : decode cX3_isToken 8 = .ok (.isub, 1) := by decide +kernel
theorem dX3_isToken_9 : decode cX3_isToken 9 = .ok (.aload_n 1, 1) := by decide +kernel
theorem dX3_isToken_10 : decode cX3_isToken 10 = .ok (.invokevirtual 117, 3) := by decide +kernel
theorem dX3_isToken_13 : decode cX3_isToken 13 = .ok (.if_icmp .eq 5, 3) := by decide +kernel
theorem dX3_isToken_16 : decode cX3_isToken 16 = .ok (.iconst 0, 1) := by decide +kernel
theorem dX3_isToken_17 : decode cX3_isToken 17 = .ok (.ireturn, 1) := by decide +kernel
theorem dX3_isToken_18 : decode cX3_isToken 18 = .ok (.iconst 0, 1) := by decide +kernel
theorem dX3_isToken_19 : decode cX3_isToken 19 = .ok (.istore_n 2, 1) := by decide +kernel
theorem dX3_isToken_20 : decode cX3_isToken 20 = .ok (.iload_n 2, 1) := by decide +kernel
theorem dX3_isToken_21 : decode cX3_isToken 21 = .ok (.aload_n 1, 1) := by decide +kernel
theorem dX3_isToken_22 : decode cX3_isToken 22 = .ok (.invokevirtual 117, 3) := by decide +kernel
theorem dX3_isToken_25 : decode cX3_isToken 25 = .ok (.if_icmp .ge 29, 3) := by decide +kernel
theorem dX3_isToken_28 : decode cX3_isToken 28 = .ok (.aload_n 0, 1) := by decide +kernel
theorem dX3_isToken_29 : decode cX3_isToken 29 = .ok (.aload_n 0, 1) := by decide +kernel
theorem dX3_isToken_30 : decode cX3_isToken 30 = .ok (.getfield 32, 3) := by decide +kernel
theorem dX3_isToken_33 : decode cX3_isToken 33 = .ok (.iload_n 2, 1) := by decide +kernel
theorem dX3_isToken_34 : decode cX3_isToken 34 = .ok (.iadd, 1) := by decide +kernel
theorem dX3_isToken_35 : decode cX3_isToken 35 = .ok (.invokevirtual 38, 3) := by decide +kernel
theorem dX3_isToken_38 : decode cX3_isToken 38 = .ok (.aload_n 1, 1) := by decide +kernel
theorem dX3_isToken_39 : decode cX3_isToken 39 = .ok (.iload_n 2, 1) := by decide +kernel
theorem dX3_isToken_40 : decode cX3_isToken 40 = .ok (.invokevirtual 121, 3) := by decide +kernel
theorem dX3_isToken_43 : decode cX3_isToken 43 = .ok (.if_icmp .eq 5, 3) := by decide +kernel
theorem dX3_isToken_46 : decode cX3_isToken 46 = .ok (.iconst 0, 1) := by decide +kernel
theorem dX3_isToken_47 : decode cX3_isToken 47 = .ok (.ireturn, 1) := by decide +kernel
theorem dX3_isToken_48 : decode cX3_isToken 48 = .ok (.iinc 2 1, 3) := by decide +kernel
theorem dX3_isToken_51 : decode cX3_isToken 51 = .ok (.goto (-31), 3) := by decide +kernel
theorem dX3_isToken_54 : decode cX3_isToken 54 = .ok (.iconst 1, 1) := by decide +kernel
theorem dX3_isToken_55 : decode cX3_isToken 55 = .ok (.ireturn, 1) := by decide +kernel
theorem dX3_readNumber_0 : decode cX3_readNumber 0 = .ok (.aload_n 0, 1) := by decide +kernel
theorem dX3_readNumber_1 : decode cX3_readNumber 1 = .ok (.getfield 32, 3) := by decide +kernel
theorem dX3_readNumber_4 : decode cX3_readNumber 4 = .ok (.aload_n 0, 1) := by decide +kernel
theorem dX3_readNumber_5 : decode cX3_readNumber 5 = .ok (.getfield 22, 3) := by decide +kernel
theorem dX3_readNumber_8 : decode cX3_readNumber 8 = .ok (.if_icmp .ge 16, 3) := by decide +kernel
theorem dX3_readNumber_11 : decode cX3_readNumber 11 = .ok (.aload_n 0, 1) := by decide +kernel
theorem dX3_readNumber_12 : decode cX3_readNumber 12 = .ok (.getfield 22, 3) := by decide +kernel
theorem dX3_readNumber_15 : decode cX3_readNumber 15 = .ok (.aload_n 0, 1) := by decide +kernel
theorem dX3_readNumber_16 : decode cX3_readNumber 16 = .ok (.getfield 32, 3) := by decide +kernel
theorem dX3_readNumber_19 : decode cX3_readNumber 19 = .ok (.isub, 1) := by decide +kernel
theorem dX3_readNumber_20 : decode cX3_readNumber 20 = .ok (.iconst 2, 1) := by decide +kernel
theorem dX3_readNumber_21 : decode cX3_readNumber 21 = .ok (.if_icmp .le 5, 3) := by decide +kernel
theorem dX3_readNumber_24 : decode cX3_readNumber 24 = .ok (.iconst (-1), 1) := by decide +kernel
theorem dX3_readNumber_25 : decode cX3_readNumber 25 = .ok (.ireturn, 1) := by decide +kernel
theorem dX3_readNumber_26 : decode cX3_readNumber 26 = .ok (.iconst 0, 1) := by decide +kernel
theorem dX3_readNumber_27 : decode cX3_readNumber 27 = .ok (.istore_n 1, 1) := by decide +kernel
theorem dX3_readNumber_28 : decode cX3_readNumber 28 = .ok (.aload_n 0, 1) := by decide +kernel
theorem dX3_readNumber_29 : decode cX3_readNumber 29 = .ok (.getfield 32, 3) := by decide +kernel
theorem dX3_readNumber_32 : decode cX3_readNumber 32 = .ok (.istore_n 2, 1) := by decide +kernel
theorem dX3_readNumber_33 : decode cX3_readNumber 33 = .ok (.iload_n 2, 1) := by decide +kernel
theorem dX3_readNumber_34 : decode cX3_readNumber 34 = .ok (.aload_n 0, 1) := by decide +kernel
theorem dX3_readNumber_35 : decode cX3_readNumber 35 = .ok (.getfield 22, 3) := by decide +kernel
theorem dX3_readNumber_38 : decode cX3_readNumber 38 = .ok (.if_icmp .ge 36, 3) := by decide +kernel
theorem dX3_readNumber_41 : decode cX3_readNumber 41 = .ok (.aload_n 0, 1) := by decide +kernel
theorem dX3_readNumber_42 : decode cX3_readNumber 42 = .ok (.iload_n 2, 1) := by decide +kernel
theorem dX3_readNumber_43 : decode cX3_readNumber 43 = .ok (.invokevirtual 38, 3) := by decide +kernel
theorem dX3_readNumber_46 : decode cX3_readNumber 46 = .ok (.invokestatic 125, 3) := by decide +kernel
theorem dX3_readNumber_49 : decode cX3_readNumber 49 = .ok (.ifCond .ne 5, 3) := by decide +kernel
theorem dX3_readNumber_52 : decode cX3_readNumber 52 = .ok (.iconst (-1), 1) := by decide +kernel
theorem dX3_readNumber_53 : decode cX3_readNumber 53 = .ok (.ireturn, 1) := by decide +kernel
theorem dX3_readNumber_54 : decode cX3_readNumber 54 = .ok (.iload_n 1, 1) := by decide +kernel
theorem dX3_readNumber_55 : decode cX3_readNumber 55 = .ok (.bipush 10, 2) := by decide +kernel
theorem dX3_readNumber_57 : decode cX3_readNumber 57 = .ok (.imul, 1) := by decide +kernel
theorem dX3_readNumber_58 : decode cX3_readNumber 58 = .ok (.aload_n 0, 1) := by decide +kernel
theorem dX3_readNumber_59 : decode cX3_readNumber 59 = .ok (.iload_n 2, 1) := by decide +kernel
theorem dX3_readNumber_60 : decode cX3_readNumber 60 = .ok (.invokevirtual 38, 3) := by decide +kernel
theorem dX3_readNumber_63 : decode cX3_readNumber 63 = .ok (.iadd, 1) := by decide +kernel
theorem dX3_readNumber_64 : decode cX3_readNumber 64 = .ok (.bipush 48, 2) := by decide +kernel
theorem dX3_readNumber_66 : decode cX3_readNumber 66 = .ok (.isub, 1) := by decide +kernel
theorem dX3_readNumber_67 : decode cX3_readNumber 67 = .ok (.istore_n 1, 1) := by decide +kernel
theorem dX3_readNumber_68 : decode cX3_readNumber 68 = .ok (.iinc 2 1, 3) := by decide +kernel
theorem dX3_readNumber_71 : decode cX3_readNumber 71 = .ok (.goto (-38), 3) := by decide +kernel
theorem dX3_readNumber_74 : decode cX3_readNumber 74 = .ok (.iload_n 1, 1) := by decide +kernel
theorem dX3_readNumber_75 : decode cX3_readNumber 75 = .ok (.ireturn, 1) := by decide +kernel
theorem dX3_nextToken_0 : decode cX3_nextToken 0 = .ok (.aload_n 0, 1) := by decide +kernel
theorem dX3_nextToken_1 : decode cX3_nextToken 1 = .ok (.aload_n 0, 1) := by decide +kernel
theorem dX3_nextToken_2 : decode cX3_nextToken 2 = .ok (.getfield 22, 3) := by decide +kernel
theorem dX3_nextToken_5 : decode cX3_nextToken 5 = .ok (.putfield 32, 3) := by decide +kernel
theorem dX3_nextToken_8 : decode cX3_nextToken 8 = .ok (.aload_n 0, 1) := by decide +kernel
theorem dX3_nextToken_9 : decode cX3_nextToken 9 = .ok (.getfield 32, 3) := by decide +kernel
theorem dX3_nextToken_12 : decode cX3_nextToken 12 = .ok (.aload_n 0, 1) := by decide +kernel
theorem dX3_nextToken_13 : decode cX3_nextToken 13 = .ok (.getfield 35, 3) := by decide +kernel
theorem dX3_nextToken_16 : decode cX3_nextToken 16 = .ok (.if_icmp .ge 29, 3) := by decide +kernel
theorem dX3_nextToken_19 : decode cX3_nextToken 19 = .ok (.aload_n 0, 1) := by decide +kernel
theorem dX3_nextToken_20 : decode cX3_nextToken 20 = .ok (.aload_n 0, 1) := by decide +kernel
theorem dX3_nextToken_21 : decode cX3_nextToken 21 = .ok (.getfield 32, 3) := by decide +kernel
theorem dX3_nextToken_24 : decode cX3_nextToken 24 = .ok (.invokevirtual 38, 3) := by decide +kernel
theorem dX3_nextToken_27 : decode cX3_nextToken 27 = .ok (.bipush 32, 2) := by decide +kernel
theorem dX3_nextToken_29 : decode cX3_nextToken 29 = .ok (.if_icmp .ne 16, 3) := by decide +kernel
theorem dX3_nextToken_32 : decode cX3_nextToken 32 = .ok (.aload_n 0, 1) := by decide +kernel
theorem dX3_nextToken_33 : decode cX3_nextToken 33 = .ok (.dup, 1) := by decide +kernel
theorem dX3_nextToken_34 : decode cX3_nextToken 34 = .ok (.getfield 32, 3) := by decide +kernel
theorem dX3_nextToken_37 : decode cX3_nextToken 37 = .ok (.iconst 1, 1) := by decide +kernel
theorem dX3_nextToken_38 : decode cX3_nextToken 38 = .ok (.iadd, 1) := by decide +kernel
theorem dX3_nextToken_39 : decode cX3_nextToken 39 = .ok (.putfield 32, 3) := by decide +kernel
theorem dX3_nextToken_42 : decode cX3_nextToken 42 = .ok (.goto (-34), 3) := by decide +kernel
theorem dX3_nextToken_45 : decode cX3_nextToken 45 = .ok (.aload_n 0, 1) := by decide +kernel
theorem dX3_nextToken_46 : decode cX3_nextToken 46 = .ok (.aload_n 0, 1) := by decide +kernel
theorem dX3_nextToken_47 : decode cX3_nextToken 47 = .ok (.getfield 32, 3) := by decide +kernel
theorem dX3_nextToken_50 : decode cX3_nextToken 50 = .ok (.putfield 22, 3) := by decide +kernel
theorem dX3_nextToken_53 : decode cX3_nextToken 53 = .ok (.aload_n 0, 1) := by decide +kernel
theorem dX3_nextToken_54 : decode cX3_nextToken 54 = .ok (.getfield 22, 3) := by decide +kernel
theorem dX3_nextToken_57 : decode cX3_nextToken 57 = .ok (.aload_n 0, 1) := by decide +kernel
theorem dX3_nextToken_58 : decode cX3_nextToken 58 = .ok (.getfield 35, 3) := by decide +kernel
theorem dX3_nextToken_61 : decode cX3_nextToken 61 = .ok (.if_icmp .lt 4, 3) := by decide +kernel
theorem dX3_nextToken_64 : decode cX3_nextToken 64 = .ok (.return_, 1) := by decide +kernel
theorem dX3_nextToken_65 : decode cX3_nextToken 65 = .ok (.aload_n 0, 1) := by decide +kernel
theorem dX3_nextToken_66 : decode cX3_nextToken 66 = .ok (.aload_n 0, 1) := by decide +kernel
theorem dX3_nextToken_67 : decode cX3_nextToken 67 = .ok (.getfield 32, 3) := by decide +kernel
theorem dX3_nextToken_70 : decode cX3_nextToken 70 = .ok (.invokevirtual 38, 3) := by decide +kernel
theorem dX3_nextToken_73 : decode cX3_nextToken 73 = .ok (.istore_n 1, 1) := by decide +kernel
theorem dX3_nextToken_74 : decode cX3_nextToken 74 = .ok (.aload_n 0, 1) := by decide +kernel
theorem dX3_nextToken_75 : decode cX3_nextToken 75 = .ok (.dup, 1) := by decide +kernel
theorem dX3_nextToken_76 : decode cX3_nextToken 76 = .ok (.getfield 22, 3) := by decide +kernel
theorem dX3_nextToken_79 : decode cX3_nextToken 79 = .ok (.iconst 1, 1) := by decide +kernel
theorem dX3_nextToken_80 : decode cX3_nextToken 80 = .ok (.iadd, 1) := by decide +kernel
theorem dX3_nextToken_81 : decode cX3_nextToken 81 = .ok (.putfield 22, 3) := by decide +kernel
theorem dX3_nextToken_84 : decode cX3_nextToken 84 = .ok (.iload_n 1, 1) := by decide +kernel
theorem dX3_nextToken_85 : decode cX3_nextToken 85 = .ok (.invokestatic 129, 3) := by decide +kernel
theorem dX3_nextToken_88 : decode cX3_nextToken 88 = .ok (.ifCond .ne 11, 3) := by decide +kernel
theorem dX3_nextToken_91 : decode cX3_nextToken 91 = .ok (.iload_n 1, 1) := by decide +kernel
theorem dX3_nextToken_92 : decode cX3_nextToken 92 = .ok (.invokestatic 125, 3) := by decide +kernel
theorem dX3_nextToken_95 : decode cX3_nextToken 95 = .ok (.ifCond .ne 4, 3) := by decide +kernel
theorem dX3_nextToken_98 : decode cX3_nextToken 98 = .ok (.return_, 1) := by decide +kernel
theorem dX3_nextToken_99 : decode cX3_nextToken 99 = .ok (.aload_n 0, 1) := by decide +kernel
theorem dX3_nextToken_100 : decode cX3_nextToken 100 = .ok (.getfield 22, 3) := by decide +kernel
theorem dX3_nextToken_103 : decode cX3_nextToken 103 = .ok (.aload_n 0, 1) := by decide +kernel
theorem dX3_nextToken_104 : decode cX3_nextToken 104 = .ok (.getfield 35, 3) := by decide +kernel
theorem dX3_nextToken_107 : decode cX3_nextToken 107 = .ok (.if_icmp .ge 52, 3) := by decide +kernel
theorem dX3_nextToken_110 : decode cX3_nextToken 110 = .ok (.aload_n 0, 1) := by decide +kernel
theorem dX3_nextToken_111 : decode cX3_nextToken 111 = .ok (.aload_n 0, 1) := by decide +kernel
theorem dX3_nextToken_112 : decode cX3_nextToken 112 = .ok (.getfield 22, 3) := by decide +kernel
theorem dX3_nextToken_115 : decode cX3_nextToken 115 = .ok (.invokevirtual 38, 3) := by decide +kernel
theorem dX3_nextToken_118 : decode cX3_nextToken 118 = .ok (.invokestatic 129, 3) := by decide +kernel
theorem dX3_nextToken_121 : decode cX3_nextToken 121 = .ok (.iload_n 1, 1) := by decide +kernel
theorem dX3_nextToken_122 : decode cX3_nextToken 122 = .ok (.invokestatic 129, 3) := by decide +kernel
theorem dX3_nextToken_125 : decode cX3_nextToken 125 = .ok (.if_icmp .ne 34, 3) := by decide +kernel
theorem dX3_nextToken_128 : decode cX3_nextToken 128 = .ok (.aload_n 0, 1) := by decide +kernel
theorem dX3_nextToken_129 : decode cX3_nextToken 129 = .ok (.aload_n 0, 1) := by decide +kernel
theorem dX3_nextToken_130 : decode cX3_nextToken 130 = .ok (.getfield 22, 3) := by decide +kernel
theorem dX3_nextToken_133 : decode cX3_nextToken 133 = .ok (.invokevirtual 38, 3) := by decide +kernel
theorem dX3_nextToken_136 : decode cX3_nextToken 136 = .ok (.invokestatic 125, 3) := by decide +kernel
end
section
theorem dX3_nextToken_139 : decode cX3_nextToken 139 = .ok (.iload_n 1, 1) := by decide +kernel
theorem dX3_nextToken_140 : decode cX3_nextToken 140 = .ok (.invokestatic 125, 3) := by decide +kernel
theorem dX3_nextToken_143 : decode cX3_nextToken 143 = .ok (.if_icmp .ne 16, 3) := by decide +kernel
theorem dX3_nextToken_146 : decode cX3_nextToken 146 = .ok (.aload_n 0, 1) := by decide +kernel
theorem dX3_nextToken_147 : decode cX3_nextToken 147 = .ok (.dup, 1) := by decide +kernel
theorem dX3_nextToken_148 : decode cX3_nextToken 148 = .ok (.getfield 22, 3) := by decide +kernel
theorem dX3_nextToken_151 : decode cX3_nextToken 151 = .ok (.iconst 1, 1) := by decide +kernel
theorem dX3_nextToken_152 : decode cX3_nextToken 152 = .ok (.iadd, 1) := by decide +kernel
theorem dX3_nextToken_153 : decode cX3_nextToken 153 = .ok (.putfield 22, 3) := by decide +kernel
theorem dX3_nextToken_156 : decode cX3_nextToken 156 = .ok (.goto (-57), 3) := by decide +kernel
theorem dX3_nextToken_159 : decode cX3_nextToken 159 = .ok (.return_, 1) := by decide +kernel
theorem dX3_letterAt_0 : decode cX3_letterAt 0 = .ok (.iload_n 1, 1) := by decide +kernel
theorem dX3_letterAt_1 : decode cX3_letterAt 1 = .ok (.ifCond .lt 29, 3) := by decide +kernel
theorem dX3_letterAt_4 : decode cX3_letterAt 4 = .ok (.iload_n 1, 1) := by decide +kernel
theorem dX3_letterAt_5 : decode cX3_letterAt 5 = .ok (.aload_n 0, 1) := by decide +kernel
theorem dX3_letterAt_6 : decode cX3_letterAt 6 = .ok (.getfield 35, 3) := by decide +kernel
theorem dX3_letterAt_9 : decode cX3_letterAt 9 = .ok (.if_icmp .ge 21, 3) := by decide +kernel
theorem dX3_letterAt_12 : decode cX3_letterAt 12 = .ok (.iload_n 1, 1) := by decide +kernel
theorem dX3_letterAt_13 : decode cX3_letterAt 13 = .ok (.aload_n 0, 1) := by decide +kernel
theorem dX3_letterAt_14 : decode cX3_letterAt 14 = .ok (.getfield 9, 3) := by decide +kernel
theorem dX3_letterAt_17 : decode cX3_letterAt 17 = .ok (.arraylength, 1) := by decide +kernel
theorem dX3_letterAt_18 : decode cX3_letterAt 18 = .ok (.if_icmp .ge 12, 3) := by decide +kernel
theorem dX3_letterAt_21 : decode cX3_letterAt 21 = .ok (.aload_n 0, 1) := by decide +kernel
theorem dX3_letterAt_22 : decode cX3_letterAt 22 = .ok (.getfield 9, 3) := by decide +kernel
theorem dX3_letterAt_25 : decode cX3_letterAt 25 = .ok (.iload_n 1, 1) := by decide +kernel
theorem dX3_letterAt_26 : decode cX3_letterAt 26 = .ok (.iaload, 1) := by decide +kernel
theorem dX3_letterAt_27 : decode cX3_letterAt 27 = .ok (.goto 4, 3) := by decide +kernel
theorem dX3_letterAt_30 : decode cX3_letterAt 30 = .ok (.iconst (-1), 1) := by decide +kernel
theorem dX3_letterAt_31 : decode cX3_letterAt 31 = .ok (.ireturn, 1) := by decide +kernel
theorem dX3_isSmall_0 : decode cX3_isSmall 0 = .ok (.iload_n 0, 1) := by decide +kernel
theorem dX3_isSmall_1 : decode cX3_isSmall 1 = .ok (.bipush 97, 2) := by decide +kernel
theorem dX3_isSmall_3 : decode cX3_isSmall 3 = .ok (.if_icmp .lt 13, 3) := by decide +kernel
theorem dX3_isSmall_6 : decode cX3_isSmall 6 = .ok (.iload_n 0, 1) := by decide +kernel
theorem dX3_isSmall_7 : decode cX3_isSmall 7 = .ok (.bipush 122, 2) := by decide +kernel
theorem dX3_isSmall_9 : decode cX3_isSmall 9 = .ok (.if_icmp .gt 7, 3) := by decide +kernel
theorem dX3_isSmall_12 : decode cX3_isSmall 12 = .ok (.iconst 1, 1) := by decide +kernel
theorem dX3_isSmall_13 : decode cX3_isSmall 13 = .ok (.goto 4, 3) := by decide +kernel
theorem dX3_isSmall_16 : decode cX3_isSmall 16 = .ok (.iconst 0, 1) := by decide +kernel
theorem dX3_isSmall_17 : decode cX3_isSmall 17 = .ok (.ireturn, 1) := by decide +kernel
theorem dX3_isDigit_0 : decode cX3_isDigit 0 = .ok (.iload_n 0, 1) := by decide +kernel
theorem dX3_isDigit_1 : decode cX3_isDigit 1 = .ok (.bipush 48, 2) := by decide +kernel
theorem dX3_isDigit_3 : decode cX3_isDigit 3 = .ok (.if_icmp .lt 13, 3) := by decide +kernel
theorem dX3_isDigit_6 : decode cX3_isDigit 6 = .ok (.iload_n 0, 1) := by decide +kernel
theorem dX3_isDigit_7 : decode cX3_isDigit 7 = .ok (.bipush 57, 2) := by decide +kernel
theorem dX3_isDigit_9 : decode cX3_isDigit 9 = .ok (.if_icmp .gt 7, 3) := by decide +kernel
theorem dX3_isDigit_12 : decode cX3_isDigit 12 = .ok (.iconst 1, 1) := by decide +kernel
theorem dX3_isDigit_13 : decode cX3_isDigit 13 = .ok (.goto 4, 3) := by decide +kernel
theorem dX3_isDigit_16 : decode cX3_isDigit 16 = .ok (.iconst 0, 1) := by decide +kernel
theorem dX3_isDigit_17 : decode cX3_isDigit 17 = .ok (.ireturn, 1) := by decide +kernel
theorem dX4_init_0 : decode cX4_init 0 = .ok (.aload_n 0, 1) := by decide +kernel
theorem dX4_init_1 : decode cX4_init 1 = .ok (.invokespecial 1, 3) := by decide +kernel
theorem dX4_init_4 : decode cX4_init 4 = .ok (.aload_n 0, 1) := by decide +kernel
theorem dX4_init_5 : decode cX4_init 5 = .ok (.new 7, 3) := by decide +kernel
theorem dX4_init_8 : decode cX4_init 8 = .ok (.dup, 1) := by decide +kernel
theorem dX4_init_9 : decode cX4_init 9 = .ok (.invokespecial 9, 3) := by decide +kernel
theorem dX4_init_12 : decode cX4_init 12 = .ok (.putfield 10, 3) := by decide +kernel
theorem dX4_init_15 : decode cX4_init 15 = .ok (.aload_n 0, 1) := by decide +kernel
theorem dX4_init_16 : decode cX4_init 16 = .ok (.new 7, 3) := by decide +kernel
theorem dX4_init_19 : decode cX4_init 19 = .ok (.dup, 1) := by decide +kernel
theorem dX4_init_20 : decode cX4_init 20 = .ok (.invokespecial 9, 3) := by decide +kernel
theorem dX4_init_23 : decode cX4_init 23 = .ok (.putfield 16, 3) := by decide +kernel
theorem dX4_init_26 : decode cX4_init 26 = .ok (.aload_n 0, 1) := by decide +kernel
theorem dX4_init_27 : decode cX4_init 27 = .ok (.new 19, 3) := by decide +kernel
theorem dX4_init_30 : decode cX4_init 30 = .ok (.dup, 1) := by decide +kernel
theorem dX4_init_31 : decode cX4_init 31 = .ok (.invokespecial 21, 3) := by decide +kernel
theorem dX4_init_34 : decode cX4_init 34 = .ok (.putfield 22, 3) := by decide +kernel
theorem dX4_init_37 : decode cX4_init 37 = .ok (.aload_n 0, 1) := by decide +kernel
theorem dX4_init_38 : decode cX4_init 38 = .ok (.new 26, 3) := by decide +kernel
theorem dX4_init_41 : decode cX4_init 41 = .ok (.dup, 1) := by decide +kernel
theorem dX4_init_42 : decode cX4_init 42 = .ok (.invokespecial 28, 3) := by decide +kernel
theorem dX4_init_45 : decode cX4_init 45 = .ok (.putfield 29, 3) := by decide +kernel
theorem dX4_init_48 : decode cX4_init 48 = .ok (.aload_n 0, 1) := by decide +kernel
theorem dX4_init_49 : decode cX4_init 49 = .ok (.new 26, 3) := by decide +kernel
theorem dX4_init_52 : decode cX4_init 52 = .ok (.dup, 1) := by decide +kernel
theorem dX4_init_53 : decode cX4_init 53 = .ok (.invokespecial 28, 3) := by decide +kernel
theorem dX4_init_56 : decode cX4_init 56 = .ok (.putfield 33, 3) := by decide +kernel
theorem dX4_init_59 : decode cX4_init 59 = .ok (.aload_n 0, 1) := by decide +kernel
theorem dX4_init_60 : decode cX4_init 60 = .ok (.bipush 8, 2) := by decide +kernel
theorem dX4_init_62 : decode cX4_init 62 = .ok (.anewarray 26, 3) := by decide +kernel
theorem dX4_init_65 : decode cX4_init 65 = .ok (.putfield 36, 3) := by decide +kernel
theorem dX4_init_68 : decode cX4_init 68 = .ok (.aload_n 0, 1) := by decide +kernel
theorem dX4_init_69 : decode cX4_init 69 = .ok (.iconst 2, 1) := by decide +kernel
theorem dX4_init_70 : decode cX4_init 70 = .ok (.anewarray 26, 3) := by decide +kernel
theorem dX4_init_73 : decode cX4_init 73 = .ok (.putfield 40, 3) := by decide +kernel
theorem dX4_init_76 : decode cX4_init 76 = .ok (.aload_n 0, 1) := by decide +kernel
theorem dX4_init_77 : decode cX4_init 77 = .ok (.bipush 8, 2) := by decide +kernel
theorem dX4_init_79 : decode cX4_init 79 = .ok (.newarray .int, 2) := by decide +kernel
theorem dX4_init_81 : decode cX4_init 81 = .ok (.putfield 43, 3) := by decide +kernel
theorem dX4_init_84 : decode cX4_init 84 = .ok (.aload_n 0, 1) := by decide +kernel
theorem dX4_init_85 : decode cX4_init 85 = .ok (.new 47, 3) := by decide +kernel
theorem dX4_init_88 : decode cX4_init 88 = .ok (.dup, 1) := by decide +kernel
theorem dX4_init_89 : decode cX4_init 89 = .ok (.invokespecial 49, 3) := by decide +kernel
theorem dX4_init_92 : decode cX4_init 92 = .ok (.putfield 50, 3) := by decide +kernel
theorem dX4_init_95 : decode cX4_init 95 = .ok (.aload_n 0, 1) := by decide +kernel
theorem dX4_init_96 : decode cX4_init 96 = .ok (.bipush 6, 2) := by decide +kernel
theorem dX4_init_98 : decode cX4_init 98 = .ok (.newarray .int, 2) := by decide +kernel
theorem dX4_init_100 : decode cX4_init 100 = .ok (.putfield 54, 3) := by decide +kernel
theorem dX4_init_103 : decode cX4_init 103 = .ok (.aload_n 0, 1) := by decide +kernel
theorem dX4_init_104 : decode cX4_init 104 = .ok (.bipush 6, 2) := by decide +kernel
theorem dX4_init_106 : decode cX4_init 106 = .ok (.newarray .int, 2) := by decide +kernel
theorem dX4_init_108 : decode cX4_init 108 = .ok (.putfield 57, 3) := by decide +kernel
theorem dX4_init_111 : decode cX4_init 111 = .ok (.aload_n 0, 1) := by decide +kernel
theorem dX4_init_112 : decode cX4_init 112 = .ok (.bipush 6, 2) := by decide +kernel
theorem dX4_init_114 : decode cX4_init 114 = .ok (.newarray .int, 2) := by decide +kernel
theorem dX4_init_116 : decode cX4_init 116 = .ok (.putfield 60, 3) := by decide +kernel
theorem dX4_init_119 : decode cX4_init 119 = .ok (.iconst 0, 1) := by decide +kernel
theorem dX4_init_120 : decode cX4_init 120 = .ok (.istore_n 1, 1) := by decide +kernel
theorem dX4_init_121 : decode cX4_init 121 = .ok (.iload_n 1, 1) := by decide +kernel
theorem dX4_init_122 : decode cX4_init 122 = .ok (.bipush 8, 2) := by decide +kernel
theorem dX4_init_124 : decode cX4_init 124 = .ok (.if_icmp .ge 22, 3) := by decide +kernel
theorem dX4_init_127 : decode cX4_init 127 = .ok (.aload_n 0, 1) := by decide +kernel
theorem dX4_init_128 : decode cX4_init 128 = .ok (.getfield 36, 3) := by decide +kernel
theorem dX4_init_131 : decode cX4_init 131 = .ok (.iload_n 1, 1) := by decide +kernel
theorem dX4_init_132 : decode cX4_init 132 = .ok (.new 26, 3) := by decide +kernel
theorem dX4_init_135 : decode cX4_init 135 = .ok (.dup, 1) := by decide +kernel
theorem dX4_init_136 : decode cX4_init 136 = .ok (.invokespecial 28, 3) := by decide +kernel
theorem dX4_init_139 : decode cX4_init 139 = .ok (.aastore, 1) := by decide +kernel
theorem dX4_init_140 : decode cX4_init 140 = .ok (.iinc 1 1, 3) := by decide +kernel
theorem dX4_init_143 : decode cX4_init 143 = .ok (.goto (-22), 3) := by decide +kernel
theorem dX4_init_146 : decode cX4_init 146 = .ok (.iconst 0, 1) := by decide +kernel
theorem dX4_init_147 : decode cX4_init 147 = .ok (.istore_n 1, 1) := by decide +kernel
theorem dX4_init_148 : decode cX4_init 148 = .ok (.iload_n 1, 1) := by decide +kernel
theorem dX4_init_149 : decode cX4_init 149 = .ok (.iconst 2, 1) := by decide +kernel
theorem dX4_init_150 : decode cX4_init 150 = .ok (.if_icmp .ge 22, 3) := by decide +kernel
theorem dX4_init_153 : decode cX4_init 153 = .ok (.aload_n 0, 1) := by decide +kernel
theorem dX4_init_154 : decode cX4_init 154 = .ok (.getfield 40, 3) := by decide +kernel
theorem dX4_init_157 : decode cX4_init 157 = .ok (.iload_n 1, 1) := by decide +kernel
theorem dX4_init_158 : decode cX4_init 158 = .ok (.new 26, 3) := by decide +kernel
theorem dX4_init_161 : decode cX4_init 161 = .ok (.dup, 1) := by decide +kernel
theorem dX4_init_162 : decode cX4_init 162 = .ok (.invokespecial 28, 3) := by decide +kernel
theorem dX4_init_165 : decode cX4_init 165 = .ok (.aastore, 1) := by decide +kernel
theorem dX4_init_166 : decode cX4_init 166 = .ok (.iinc 1 1, 3) := by decide +kernel
theorem dX4_init_169 : decode cX4_init 169 = .ok (.goto (-21), 3) := by decide +kernel
theorem dX4_init_172 : decode cX4_init 172 = .ok (.return_, 1) := by decide +kernel
theorem dX4_write_0 : decode cX4_write 0 = .ok (.iload_n 1, 1) := by decide +kernel
theorem dX4_write_1 : decode cX4_write 1 = .ok (.ifCond .lt 10, 3) := by decide +kernel
theorem dX4_write_4 : decode cX4_write 4 = .ok (.iload_n 1, 1) := by decide +kernel
theorem dX4_write_5 : decode cX4_write 5 = .ok (.sipush 255, 3) := by decide +kernel
theorem dX4_write_8 : decode cX4_write 8 = .ok (.if_icmp .le 6, 3) := by decide +kernel
theorem dX4_write_11 : decode cX4_write 11 = .ok (.bipush (-3), 2) := by decide +kernel
theorem dX4_write_13 : decode cX4_write 13 = .ok (.ireturn, 1) := by decide +kernel
theorem dX4_write_14 : decode cX4_write 14 = .ok (.aload_n 0, 1) := by decide +kernel
theorem dX4_write_15 : decode cX4_write 15 = .ok (.getfield 22, 3) := by decide +kernel
theorem dX4_write_18 : decode cX4_write 18 = .ok (.getfield 63, 3) := by decide +kernel
theorem dX4_write_21 : decode cX4_write 21 = .ok (.sipush 160, 3) := by decide +kernel
theorem dX4_write_24 : decode cX4_write 24 = .ok (.if_icmp .lt 6, 3) := by decide +kernel
theorem dX4_write_27 : decode cX4_write 27 = .ok (.bipush (-5), 2) := by decide +kernel
theorem dX4_write_29 : decode cX4_write 29 = .ok (.ireturn, 1) := by decide +kernel
theorem dX4_write_30 : decode cX4_write 30 = .ok (.aload_n 0, 1) := by decide +kernel
theorem dX4_write_31 : decode cX4_write 31 = .ok (.getfield 22, 3) := by decide +kernel
theorem dX4_write_34 : decode cX4_write 34 = .ok (.getfield 67, 3) := by decide +kernel
theorem dX4_write_37 : decode cX4_write 37 = .ok (.aload_n 0, 1) := by decide +kernel
theorem dX4_write_38 : decode cX4_write 38 = .ok (.getfield 22, 3) := by decide +kernel
theorem dX4_write_41 : decode cX4_write 41 = .ok (.getfield 63, 3) := by decide +kernel
theorem dX4_write_44 : decode cX4_write 44 = .ok (.iload_n 1, 1) := by decide +kernel
theorem dX4_write_45 : decode cX4_write 45 = .ok (.iastore, 1) := by decide +kernel
theorem dX4_write_46 : decode cX4_write 46 = .ok (.aload_n 0, 1) := by decide +kernel
theorem dX4_write_47 : decode cX4_write 47 = .ok (.getfield 22, 3) := by decide +kernel
theorem dX4_write_50 : decode cX4_write 50 = .ok (.dup, 1) := by decide +kernel
theorem dX4_write_51 : decode cX4_write 51 = .ok (.getfield 63, 3) := by decide +kernel
theorem dX4_write_54 : decode cX4_write 54 = .ok (.iconst 1, 1) := by decide +kernel
theorem dX4_write_55 : decode cX4_write 55 = .ok (.iadd, 1) := by decide +kernel
theorem dX4_write_56 : decode cX4_write 56 = .ok (.putfield 63, 3) := by decide +kernel
theorem dX4_write_59 : decode cX4_write 59 = .ok (.aload_n 0, 1) := by decide +kernel
theorem dX4_write_60 : decode cX4_write 60 = .ok (.getfield 22, 3) := by decide +kernel
theorem dX4_write_63 : decode cX4_write 63 = .ok (.getfield 63, 3) := by decide +kernel
theorem dX4_write_66 : decode cX4_write 66 = .ok (.ireturn, 1) := by decide +kernel
theorem dX4_erase_0 : decode cX4_erase 0 = .ok (.aload_n 0, 1) := by decide +kernel
theorem dX4_erase_1 : decode cX4_erase 1 = .ok (.getfield 22, 3) := by decide +kernel
theorem dX4_erase_4 : decode cX4_erase 4 = .ok (.getfield 63, 3) := by decide +kernel
theorem dX4_erase_7 : decode cX4_erase 7 = .ok (.istore_n 1, 1) := by decide +kernel
theorem dX4_erase_8 : decode cX4_erase 8 = .ok (.aload_n 0, 1) := by decide +kernel
theorem dX4_erase_9 : decode cX4_erase 9 = .ok (.getfield 22, 3) := by decide +kernel
theorem dX4_erase_12 : decode cX4_erase 12 = .ok (.iconst 0, 1) := by decide +kernel
theorem dX4_erase_13 : decode cX4_erase 13 = .ok (.putfield 63, 3) := by decide +kernel
theorem dX4_erase_16 : decode cX4_erase 16 = .ok (.iload_n 1, 1) := by decide +kernel
theorem dX4_erase_17 : decode cX4_erase 17 = .ok (.ireturn, 1) := by decide +kernel
theorem dX4_fault_0 : decode cX4_fault 0 = .ok (.aload_n 0, 1) := by decide +kernel
theorem dX4_fault_1 : decode cX4_fault 1 = .ok (.getfield 16, 3) := by decide +kernel
theorem dX4_fault_4 : decode cX4_fault 4 = .ok (.aload_n 0, 1) := by decide +kernel
theorem dX4_fault_5 : decode cX4_fault 5 = .ok (.getfield 10, 3) := by decide +kernel
theorem dX4_fault_8 : decode cX4_fault 8 = .ok (.invokevirtual 70, 3) := by decide +kernel
theorem dX4_fault_11 : decode cX4_fault 11 = .ok (.aload_n 0, 1) := by decide +kernel
theorem dX4_fault_12 : decode cX4_fault 12 = .ok (.getfield 22, 3) := by decide +kernel
theorem dX4_fault_15 : decode cX4_fault 15 = .ok (.aload_n 0, 1) := by decide +kernel
theorem dX4_fault_16 : decode cX4_fault 16 = .ok (.getfield 16, 3) := by decide +kernel
theorem dX4_fault_19 : decode cX4_fault 19 = .ok (.invokevirtual 74, 3) := by decide +kernel
theorem dX4_fault_22 : decode cX4_fault 22 = .ok (.ireturn, 1) := by decide +kernel
theorem dX4_court_0 : decode cX4_court 0 = .ok (.aload_n 0, 1) := by decide +kernel
theorem dX4_court_1 : decode cX4_court 1 = .ok (.getfield 16, 3) := by decide +kernel
theorem dX4_court_4 : decode cX4_court 4 = .ok (.aload_n 0, 1) := by decide +kernel
theorem dX4_court_5 : decode cX4_court 5 = .ok (.getfield 10, 3) := by decide +kernel
theorem dX4_court_8 : decode cX4_court 8 = .ok (.invokevirtual 70, 3) := by decide +kernel
theorem dX4_court_11 : decode cX4_court 11 = .ok (.aload_n 0, 1) := by decide +kernel
theorem dX4_court_12 : decode cX4_court 12 = .ok (.getfield 22, 3) := by decide +kernel
theorem dX4_court_15 : decode cX4_court 15 = .ok (.aload_n 0, 1) := by decide +kernel
theorem dX4_court_16 : decode cX4_court 16 = .ok (.getfield 16, 3) := by decide +kernel
theorem dX4_court_19 : decode cX4_court 19 = .ok (.invokevirtual 74, 3) := by decide +kernel
theorem dX4_court_22 : decode cX4_court 22 = .ok (.iconst (-1), 1) := by decide +kernel
theorem dX4_court_23 : decode cX4_court 23 = .ok (.if_icmp .eq 6, 3) := by decide +kernel
theorem dX4_court_26 : decode cX4_court 26 = .ok (.bipush (-4), 2) := by decide +kernel
theorem dX4_court_28 : decode cX4_court 28 = .ok (.ireturn, 1) := by decide +kernel
theorem dX4_court_29 : decode cX4_court 29 = .ok (.aload_n 0, 1) := by decide +kernel
theorem dX4_court_30 : decode cX4_court 30 = .ok (.getfield 10, 3) := by decide +kernel
theorem dX4_court_33 : decode cX4_court 33 = .ok (.aload_n 0, 1) := by decide +kernel
theorem dX4_court_34 : decode cX4_court 34 = .ok (.getfield 16, 3) := by decide +kernel
theorem dX4_court_37 : decode cX4_court 37 = .ok (.invokevirtual 70, 3) := by decide +kernel
theorem dX4_court_40 : decode cX4_court 40 = .ok (.aload_n 0, 1) := by decide +kernel
theorem dX4_court_41 : decode cX4_court 41 = .ok (.getfield 22, 3) := by decide +kernel
theorem dX4_court_44 : decode cX4_court 44 = .ok (.iconst 0, 1) := by decide +kernel
theorem dX4_court_45 : decode cX4_court 45 = .ok (.putfield 63, 3) := by decide +kernel
theorem dX4_court_48 : decode cX4_court 48 = .ok (.aload_n 0, 1) := by decide +kernel
theorem dX4_court_49 : decode cX4_court 49 = .ok (.invokevirtual 78, 3) := by decide +kernel
theorem dX4_court_52 : decode cX4_court 52 = .ok (.aload_n 0, 1) := by decide +kernel
theorem dX4_court_53 : decode cX4_court 53 = .ok (.getfield 22, 3) := by decide +kernel
theorem dX4_court_56 : decode cX4_court 56 = .ok (.getfield 81, 3) := by decide +kernel
theorem dX4_court_59 : decode cX4_court 59 = .ok (.ireturn, 1) := by decide +kernel
theorem dX4_thing_0 : decode cX4_thing 0 = .ok (.aload_n 0, 1) := by decide +kernel
theorem dX4_thing_1 : decode cX4_thing 1 = .ok (.iload_n 1, 1) := by decide +kernel
theorem dX4_thing_2 : decode cX4_thing 2 = .ok (.invokevirtual 84, 3) := by decide +kernel
theorem dX4_thing_5 : decode cX4_thing 5 = .ok (.ifCond .ne 6, 3) := by decide +kernel
theorem dX4_thing_8 : decode cX4_thing 8 = .ok (.bipush (-2), 2) := by decide +kernel
theorem dX4_thing_10 : decode cX4_thing 10 = .ok (.ireturn, 1) := by decide +kernel
theorem dX4_thing_11 : decode cX4_thing 11 = .ok (.iload_n 2, 1) := by decide +kernel
theorem dX4_thing_12 : decode cX4_thing 12 = .ok (.tableswitch 126 0 6 #[44, 54, 64, 74, 84, 93, 113], 44) := by decide +kernel
theorem dX4_thing_56 : decode cX4_thing 56 = .ok (.aload_n 0, 1) := by decide +kernel
theorem dX4_thing_57 : decode cX4_thing 57 = .ok (.getfield 10, 3) := by decide +kernel
theorem dX4_thing_60 : decode cX4_thing 60 = .ok (.getfield 88, 3) := by decide +kernel
theorem dX4_thing_63 : decode cX4_thing 63 = .ok (.iload_n 1, 1) := by decide +kernel
theorem dX4_thing_64 : decode cX4_thing 64 = .ok (.iaload, 1) := by decide +kernel
theorem dX4_thing_65 : decode cX4_thing 65 = .ok (.ireturn, 1) := by decide +kernel
theorem dX4_thing_66 : decode cX4_thing 66 = .ok (.aload_n 0, 1) := by decide +kernel
theorem dX4_thing_67 : decode cX4_thing 67 = .ok (.getfield 10, 3) := by decide +kernel
theorem dX4_thing_70 : decode cX4_thing 70 = .ok (.getfield 91, 3) := by decide +kernel
theorem dX4_thing_73 : decode cX4_thing 73 = .ok (.iload_n 1, 1) := by decide +kernel
theorem dX4_thing_74 : decode cX4_thing 74 = .ok (.iaload, 1) := by decide +kernel
theorem dX4_thing_75 : decode cX4_thing 75 = .ok (.ireturn, 1) := by decide +kernel
theorem dX4_thing_76 : decode cX4_thing 76 = .ok (.aload_n 0, 1) := by decide +kernel
theorem dX4_thing_77 : decode cX4_thing 77 = .ok (.getfield 10, 3) := by decide +kernel
theorem dX4_thing_80 : decode cX4_thing 80 = .ok (.getfield 94, 3) := by decide +kernel
theorem dX4_thing_83 : decode cX4_thing 83 = .ok (.iload_n 1, 1) := by decide +kernel
theorem dX4_thing_84 : decode cX4_thing 84 = .ok (.iaload, 1) := by decide +kernel
theorem dX4_thing_85 : decode cX4_thing 85 = .ok (.ireturn, 1) := by decide +kernel
theorem dX4_thing_86 : decode cX4_thing 86 = .ok (.aload_n 0, 1) := by decide +kernel
theorem dX4_thing_87 : decode cX4_thing 87 = .ok (.getfield 10, 3) := by decide +kernel
theorem dX4_thing_90 : decode cX4_thing 90 = .ok (.getfield 97, 3) := by decide +kernel
theorem dX4_thing_93 : decode cX4_thing 93 = .ok (.iload_n 1, 1) := by decide +kernel
theorem dX4_thing_94 : decode cX4_thing 94 = .ok (.iaload, 1) := by decide +kernel
theorem dX4_thing_95 : decode cX4_thing 95 = .ok (.ireturn, 1) := by decide +kernel
theorem dX4_thing_96 : decode cX4_thing 96 = .ok (.aload_n 0, 1) := by decide +kernel
theorem dX4_thing_97 : decode cX4_thing 97 = .ok (.getfield 29, 3) := by decide +kernel
theorem dX4_thing_100 : decode cX4_thing 100 = .ok (.iload_n 1, 1) := by decide +kernel
theorem dX4_thing_101 : decode cX4_thing 101 = .ok (.invokevirtual 100, 3) := by decide +kernel
theorem dX4_thing_104 : decode cX4_thing 104 = .ok (.ireturn, 1) := by decide +kernel
theorem dX4_thing_105 : decode cX4_thing 105 = .ok (.aload_n 0, 1) := by decide +kernel
theorem dX4_thing_106 : decode cX4_thing 106 = .ok (.getfield 29, 3) := by decide +kernel
theorem dX4_thing_109 : decode cX4_thing 109 = .ok (.getfield 104, 3) := by decide +kernel
theorem dX4_thing_112 : decode cX4_thing 112 = .ok (.iload_n 1, 1) := by decide +kernel
theorem dX4_thing_113 : decode cX4_thing 113 = .ok (.invokestatic 107, 3) := by decide +kernel
theorem dX4_thing_116 : decode cX4_thing 116 = .ok (.ifCond .eq 7, 3) := by decide +kernel
theorem dX4_thing_119 : decode cX4_thing 119 = .ok (.iconst 1, 1) := by decide +kernel
theorem dX4_thing_120 : decode cX4_thing 120 = .ok (.goto 4, 3) := by decide +kernel
theorem dX4_thing_123 : decode cX4_thing 123 = .ok (.iconst 0, 1) := by decide +kernel
theorem dX4_thing_124 : decode cX4_thing 124 = .ok (.ireturn, 1) := by decide +kernel
theorem dX4_thing_125 : decode cX4_thing 125 = .ok (.aload_n 0, 1) := by decide +kernel
theorem dX4_thing_126 : decode cX4_thing 126 = .ok (.getfield 29, 3) := by decide +kernel
theorem dX4_thing_129 : decode cX4_thing 129 = .ok (.aload_n 0, 1) := by decide +kernel
theorem dX4_thing_130 : decode cX4_thing 130 = .ok (.getfield 10, 3) := by decide +kernel
theorem dX4_thing_133 : decode cX4_thing 133 = .ok (.iload_n 1, 1) := by decide +kernel
theorem dX4_thing_134 : decode cX4_thing 134 = .ok (.invokevirtual 111, 3) := by decide +kernel
theorem dX4_thing_137 : decode cX4_thing 137 = .ok (.ireturn, 1) := by decide +kernel
theorem dX4_thing_138 : decode cX4_thing 138 = .ok (.bipush (-3), 2) := by decide +kernel
theorem dX4_thing_140 : decode cX4_thing 140 = .ok (.ireturn, 1) := by decide +kernel
theorem dX4_as_0 : decode cX4_as 0 = .ok (.aload_n 0, 1) := by decide +kernel
theorem dX4_as_1 : decode cX4_as 1 = .ok (.iload_n 1, 1) := by decide +kernel
theorem dX4_as_2 : decode cX4_as 2 = .ok (.invokevirtual 84, 3) := by decide +kernel
theorem dX4_as_5 : decode cX4_as 5 = .ok (.ifCond .ne 6, 3) := by decide +kernel
theorem dX4_as_8 : decode cX4_as 8 = .ok (.bipush (-2), 2) := by decide +kernel
theorem dX4_as_10 : decode cX4_as 10 = .ok (.ireturn, 1) := by decide +kernel
theorem dX4_as_11 : decode cX4_as 11 = .ok (.iload_n 2, 1) := by decide +kernel
theorem dX4_as_12 : decode cX4_as 12 = .ok (.ifCond .lt 11, 3) := by decide +kernel
theorem dX4_as_15 : decode cX4_as 15 = .ok (.iload_n 2, 1) := by decide +kernel
theorem dX4_as_16 : decode cX4_as 16 = .ok (.getstatic 115, 3) := by decide +kernel
theorem dX4_as_19 : decode cX4_as 19 = .ok (.arraylength, 1) := by decide +kernel
theorem dX4_as_20 : decode cX4_as 20 = .ok (.if_icmp .lt 6, 3) := by decide +kernel
theorem dX4_as_23 : decode cX4_as 23 = .ok (.bipush (-3), 2) := by decide +kernel
theorem dX4_as_25 : decode cX4_as 25 = .ok (.ireturn, 1) := by decide +kernel
theorem dX4_as_26 : decode cX4_as 26 = .ok (.aload_n 0, 1) := by decide +kernel
theorem dX4_as_27 : decode cX4_as 27 = .ok (.getfield 10, 3) := by decide +kernel
theorem dX4_as_30 : decode cX4_as 30 = .ok (.getfield 88, 3) := by decide +kernel
theorem dX4_as_33 : decode cX4_as 33 = .ok (.iload_n 1, 1) := by decide +kernel
theorem dX4_as_34 : decode cX4_as 34 = .ok (.iaload, 1) := by decide +kernel
theorem dX4_as_35 : decode cX4_as 35 = .ok (.iconst 1, 1) := by decide +kernel
theorem dX4_as_36 : decode cX4_as 36 = .ok (.iadd, 1) := by decide +kernel
theorem dX4_as_37 : decode cX4_as 37 = .ok (.iload_n 2, 1) := by decide +kernel
theorem dX4_as_38 : decode cX4_as 38 = .ok (.invokestatic 118, 3) := by decide +kernel
theorem dX4_as_41 : decode cX4_as 41 = .ok (.ifCond .eq 18, 3) := by decide +kernel
theorem dX4_as_44 : decode cX4_as 44 = .ok (.aload_n 0, 1) := by decide +kernel
theorem dX4_as_45 : decode cX4_as 45 = .ok (.getfield 29, 3) := by decide +kernel
theorem dX4_as_48 : decode cX4_as 48 = .ok (.aload_n 0, 1) := by decide +kernel
theorem dX4_as_49 : decode cX4_as 49 = .ok (.getfield 10, 3) := by decide +kernel
theorem dX4_as_52 : decode cX4_as 52 = .ok (.iload_n 1, 1) := by decide +kernel
theorem dX4_as_53 : decode cX4_as 53 = .ok (.invokevirtual 121, 3) := by decide +kernel
theorem dX4_as_56 : decode cX4_as 56 = .ok (.goto 5, 3) := by decide +kernel
theorem dX4_as_59 : decode cX4_as 59 = .ok (.bipush (-4), 2) := by decide +kernel
theorem dX4_as_61 : decode cX4_as 61 = .ok (.ireturn, 1) := by decide +kernel
theorem dX4_floor_0 : decode cX4_floor 0 = .ok (.iload_n 1, 1) := by decide +kernel
theorem dX4_floor_1 : decode cX4_floor 1 = .ok (.ifCond .lt 8, 3) := by decide +kernel
theorem dX4_floor_4 : decode cX4_floor 4 = .ok (.iload_n 1, 1) := by decide +kernel
theorem dX4_floor_5 : decode cX4_floor 5 = .ok (.iconst 3, 1) := by decide +kernel
theorem dX4_floor_6 : decode cX4_floor 6 = .ok (.if_icmp .lt 6, 3) := by decide +kernel
theorem dX4_floor_9 : decode cX4_floor 9 = .ok (.bipush (-2), 2) := by decide +kernel
theorem dX4_floor_11 : decode cX4_floor 11 = .ok (.ireturn, 1) := by decide +kernel
theorem dX4_floor_12 : decode cX4_floor 12 = .ok (.iload_n 2, 1) := by decide +kernel
theorem dX4_floor_13 : decode cX4_floor 13 = .ok (.tableswitch 91 0 3 #[31, 41, 54, 74], 31) := by decide +kernel
theorem dX4_floor_44 : decode cX4_floor 44 = .ok (.aload_n 0, 1) := by decide +kernel
theorem dX4_floor_45 : decode cX4_floor 45 = .ok (.getfield 10, 3) := by decide +kernel
theorem dX4_floor_48 : decode cX4_floor 48 = .ok (.getfield 124, 3) := by decide +kernel
theorem dX4_floor_51 : decode cX4_floor 51 = .ok (.iload_n 1, 1) := by decide +kernel
theorem dX4_floor_52 : decode cX4_floor 52 = .ok (.iaload, 1) := by decide +kernel
theorem dX4_floor_53 : decode cX4_floor 53 = .ok (.ireturn, 1) := by decide +kernel
theorem dX4_floor_54 : decode cX4_floor 54 = .ok (.aload_n 0, 1) := by decide +kernel
theorem dX4_floor_55 : decode cX4_floor 55 = .ok (.getfield 29, 3) := by decide +kernel
theorem dX4_floor_58 : decode cX4_floor 58 = .ok (.aload_n 0, 1) := by decide +kernel
theorem dX4_floor_59 : decode cX4_floor 59 = .ok (.getfield 10, 3) := by decide +kernel
theorem dX4_floor_62 : decode cX4_floor 62 = .ok (.iload_n 1, 1) := by decide +kernel
theorem dX4_floor_63 : decode cX4_floor 63 = .ok (.invokevirtual 127, 3) := by decide +kernel
theorem dX4_floor_66 : decode cX4_floor 66 = .ok (.ireturn, 1) := by decide +kernel
theorem dX4_floor_67 : decode cX4_floor 67 = .ok (.aload_n 0, 1) := by decide +kernel
theorem dX4_floor_68 : decode cX4_floor 68 = .ok (.getfield 29, 3) := by decide +kernel
theorem dX4_floor_71 : decode cX4_floor 71 = .ok (.getfield 130, 3) := by decide +kernel
theorem dX4_floor_74 : decode cX4_floor 74 = .ok (.iload_n 1, 1) := by decide +kernel
theorem dX4_floor_75 : decode cX4_floor 75 = .ok (.invokestatic 107, 3) := by decide +kernel
theorem dX4_floor_78 : decode cX4_floor 78 = .ok (.ifCond .eq 7, 3) := by decide +kernel
theorem dX4_floor_81 : decode cX4_floor 81 = .ok (.iconst 1, 1) := by decide +kernel
theorem dX4_floor_82 : decode cX4_floor 82 = .ok (.goto 4, 3) := by decide +kernel
theorem dX4_floor_85 : decode cX4_floor 85 = .ok (.iconst 0, 1) := by decide +kernel
theorem dX4_floor_86 : decode cX4_floor 86 = .ok (.ireturn, 1) := by decide +kernel
theorem dX4_floor_87 : decode cX4_floor 87 = .ok (.aload_n 0, 1) := by decide +kernel
theorem dX4_floor_88 : decode cX4_floor 88 = .ok (.getfield 29, 3) := by decide +kernel
theorem dX4_floor_91 : decode cX4_floor 91 = .ok (.aload_n 0, 1) := by decide +kernel
theorem dX4_floor_92 : decode cX4_floor 92 = .ok (.getfield 10, 3) := by decide +kernel
theorem dX4_floor_95 : decode cX4_floor 95 = .ok (.iload_n 1, 1) := by decide +kernel
theorem dX4_floor_96 : decode cX4_floor 96 = .ok (.aload_n 0, 1) := by decide +kernel
theorem dX4_floor_97 : decode cX4_floor 97 = .ok (.getfield 133, 3) := by decide +kernel
theorem dX4_floor_100 : decode cX4_floor 100 = .ok (.invokevirtual 136, 3) := by decide +kernel
theorem dX4_floor_103 : decode cX4_floor 103 = .ok (.ireturn, 1) := by decide +kernel
theorem dX4_floor_104 : decode cX4_floor 104 = .ok (.bipush (-3), 2) := by decide +kernel
theorem dX4_floor_106 : decode cX4_floor 106 = .ok (.ireturn, 1) := by decide +kernel
theorem dX4_hand_0 : decode cX4_hand 0 = .ok (.iload_n 1, 1) := by decide +kernel
theorem dX4_hand_1 : decode cX4_hand 1 = .ok (.ifCond .lt 9, 3) := by decide +kernel
theorem dX4_hand_4 : decode cX4_hand 4 = .ok (.iload_n 1, 1) := by decide +kernel
theorem dX4_hand_5 : decode cX4_hand 5 = .ok (.bipush 99, 2) := by decide +kernel
theorem dX4_hand_7 : decode cX4_hand 7 = .ok (.if_icmp .le 6, 3) := by decide +kernel
theorem dX4_hand_10 : decode cX4_hand 10 = .ok (.bipush (-3), 2) := by decide +kernel
theorem dX4_hand_12 : decode cX4_hand 12 = .ok (.ireturn, 1) := by decide +kernel
theorem dX4_hand_13 : decode cX4_hand 13 = .ok (.aload_n 0, 1) := by decide +kernel
theorem dX4_hand_14 : decode cX4_hand 14 = .ok (.getfield 10, 3) := by decide +kernel
theorem dX4_hand_17 : decode cX4_hand 17 = .ok (.aload_n 0, 1) := by decide +kernel
theorem dX4_hand_18 : decode cX4_hand 18 = .ok (.getfield 29, 3) := by decide +kernel
theorem dX4_hand_21 : decode cX4_hand 21 = .ok (.getfield 140, 3) := by decide +kernel
theorem dX4_hand_24 : decode cX4_hand 24 = .ok (.iload_n 1, 1) := by decide +kernel
theorem dX4_hand_25 : decode cX4_hand 25 = .ok (.invokestatic 143, 3) := by decide +kernel
theorem dX4_hand_28 : decode cX4_hand 28 = .ok (.ireturn, 1) := by decide +kernel
theorem dX4_touch_0 : decode cX4_touch 0 = .ok (.aload_n 0, 1) := by decide +kernel
theorem dX4_touch_1 : decode cX4_touch 1 = .ok (.iload_n 1, 1) := by decide +kernel
theorem dX4_touch_2 : decode cX4_touch 2 = .ok (.invokevirtual 84, 3) := by decide +kernel
theorem dX4_touch_5 : decode cX4_touch 5 = .ok (.ifCond .ne 6, 3) := by decide +kernel
theorem dX4_touch_8 : decode cX4_touch 8 = .ok (.bipush (-2), 2) := by decide +kernel
theorem dX4_touch_10 : decode cX4_touch 10 = .ok (.ireturn, 1) := by decide +kernel
theorem dX4_touch_11 : decode cX4_touch 11 = .ok (.aload_n 0, 1) := by decide +kernel
theorem dX4_touch_12 : decode cX4_touch 12 = .ok (.getfield 29, 3) := by decide +kernel
theorem dX4_touch_15 : decode cX4_touch 15 = .ok (.aload_n 0, 1) := by decide +kernel
theorem dX4_touch_16 : decode cX4_touch 16 = .ok (.getfield 10, 3) := by decide +kernel
theorem dX4_touch_19 : decode cX4_touch 19 = .ok (.iload_n 1, 1) := by decide +kernel
theorem dX4_touch_20 : decode cX4_touch 20 = .ok (.invokevirtual 146, 3) := by decide +kernel
theorem dX4_touch_23 : decode cX4_touch 23 = .ok (.ifCond .eq 6, 3) := by decide +kernel
theorem dX4_touch_26 : decode cX4_touch 26 = .ok (.bipush (-4), 2) := by decide +kernel
theorem dX4_touch_28 : decode cX4_touch 28 = .ok (.ireturn, 1) := by decide +kernel
theorem dX4_touch_29 : decode cX4_touch 29 = .ok (.aload_n 0, 1) := by decide +kernel
theorem dX4_touch_30 : decode cX4_touch 30 = .ok (.getfield 29, 3) := by decide +kernel
theorem dX4_touch_33 : decode cX4_touch 33 = .ok (.getfield 150, 3) := by decide +kernel
theorem dX4_touch_36 : decode cX4_touch 36 = .ok (.bipush 24, 2) := by decide +kernel
theorem dX4_touch_38 : decode cX4_touch 38 = .ok (.if_icmp .lt 6, 3) := by decide +kernel
theorem dX4_touch_41 : decode cX4_touch 41 = .ok (.bipush (-5), 2) := by decide +kernel
theorem dX4_touch_43 : decode cX4_touch 43 = .ok (.ireturn, 1) := by decide +kernel
theorem dX4_touch_44 : decode cX4_touch 44 = .ok (.aload_n 0, 1) := by decide +kernel
theorem dX4_touch_45 : decode cX4_touch 45 = .ok (.iload_n 1, 1) := by decide +kernel
theorem dX4_touch_46 : decode cX4_touch 46 = .ok (.invokevirtual 153, 3) := by decide +kernel
theorem dX4_touch_49 : decode cX4_touch 49 = .ok (.ireturn, 1) := by decide +kernel
theorem dX4_by_0 : decode cX4_by 0 = .ok (.aload_n 0, 1) := by decide +kernel
theorem dX4_by_1 : decode cX4_by 1 = .ok (.iload_n 1, 1) := by decide +kernel
theorem dX4_by_2 : decode cX4_by 2 = .ok (.invokevirtual 84, 3) := by decide +kernel
theorem dX4_by_5 : decode cX4_by 5 = .ok (.ifCond .eq 16, 3) := by decide +kernel
theorem dX4_by_8 : decode cX4_by 8 = .ok (.aload_n 0, 1) := by decide +kernel
theorem dX4_by_9 : decode cX4_by 9 = .ok (.iload_n 2, 1) := by decide +kernel
theorem dX4_by_10 : decode cX4_by 10 = .ok (.invokevirtual 84, 3) := by decide +kernel
theorem dX4_by_13 : decode cX4_by 13 = .ok (.ifCond .eq 8, 3) := by decide +kernel
theorem dX4_by_16 : decode cX4_by 16 = .ok (.iload_n 1, 1) := by decide +kernel
theorem dX4_by_17 : decode cX4_by 17 = .ok (.iload_n 2, 1) := by decide +kernel
theorem dX4_by_18 : decode cX4_by 18 = .ok (.if_icmp .ne 6, 3) := by decide +kernel
theorem dX4_by_21 : decode cX4_by 21 = .ok (.bipush (-2), 2) := by decide +kernel
theorem dX4_by_23 : decode cX4_by 23 = .ok (.ireturn, 1) := by decide +kernel
theorem dX4_by_24 : decode cX4_by 24 = .ok (.aload_n 0, 1) := by decide +kernel
theorem dX4_by_25 : decode cX4_by 25 = .ok (.getfield 29, 3) := by decide +kernel
theorem dX4_by_28 : decode cX4_by 28 = .ok (.aload_n 0, 1) := by decide +kernel
theorem dX4_by_29 : decode cX4_by 29 = .ok (.getfield 10, 3) := by decide +kernel
theorem dX4_by_32 : decode cX4_by 32 = .ok (.iload_n 2, 1) := by decide +kernel
theorem dX4_by_33 : decode cX4_by 33 = .ok (.invokevirtual 146, 3) := by decide +kernel
theorem dX4_by_36 : decode cX4_by 36 = .ok (.ifCond .ne 12, 3) := by decide +kernel
theorem dX4_by_39 : decode cX4_by 39 = .ok (.aload_n 0, 1) := by decide +kernel
theorem dX4_by_40 : decode cX4_by 40 = .ok (.iload_n 1, 1) := by decide +kernel
theorem dX4_by_41 : decode cX4_by 41 = .ok (.iload_n 2, 1) := by decide +kernel
theorem dX4_by_42 : decode cX4_by 42 = .ok (.invokevirtual 156, 3) := by decide +kernel
theorem dX4_by_45 : decode cX4_by 45 = .ok (.ifCond .ne 6, 3) := by decide +kernel
theorem dX4_by_48 : decode cX4_by 48 = .ok (.bipush (-4), 2) := by decide +kernel
theorem dX4_by_50 : decode cX4_by 50 = .ok (.ireturn, 1) := by decide +kernel
theorem dX4_by_51 : decode cX4_by 51 = .ok (.aload_n 0, 1) := by decide +kernel
theorem dX4_by_52 : decode cX4_by 52 = .ok (.getfield 29, 3) := by decide +kernel
theorem dX4_by_55 : decode cX4_by 55 = .ok (.getfield 150, 3) := by decide +kernel
theorem dX4_by_58 : decode cX4_by 58 = .ok (.bipush 24, 2) := by decide +kernel
theorem dX4_by_60 : decode cX4_by 60 = .ok (.if_icmp .lt 6, 3) := by decide +kernel
theorem dX4_by_63 : decode cX4_by 63 = .ok (.bipush (-5), 2) := by decide +kernel
theorem dX4_by_65 : decode cX4_by 65 = .ok (.ireturn, 1) := by decide +kernel
theorem dX4_by_66 : decode cX4_by 66 = .ok (.aload_n 0, 1) := by decide +kernel
theorem dX4_by_67 : decode cX4_by 67 = .ok (.iload_n 1, 1) := by decide +kernel
theorem dX4_by_68 : decode cX4_by 68 = .ok (.invokevirtual 153, 3) := by decide +kernel
theorem dX4_by_71 : decode cX4_by 71 = .ok (.ireturn, 1) := by decide +kernel
theorem dX4_eat_0 : decode cX4_eat 0 = .ok (.iload_n 2, 1) := by decide +kernel
theorem dX4_eat_1 : decode cX4_eat 1 = .ok (.iconst (-1), 1) := by decide +kernel
theorem dX4_eat_2 : decode cX4_eat 2 = .ok (.if_icmp .ne 7, 3) := by decide +kernel
theorem dX4_eat_5 : decode cX4_eat 5 = .ok (.iconst 1, 1) := by decide +kernel
theorem dX4_eat_6 : decode cX4_eat 6 = .ok (.goto 4, 3) := by decide +kernel
theorem dX4_eat_9 : decode cX4_eat 9 = .ok (.iconst 0, 1) := by decide +kernel
theorem dX4_eat_10 : decode cX4_eat 10 = .ok (.istore_n 3, 1) := by decide +kernel
theorem dX4_eat_11 : decode cX4_eat 11 = .ok (.aload_n 0, 1) := by decide +kernel
theorem dX4_eat_12 : decode cX4_eat 12 = .ok (.iload_n 1, 1) := by decide +kernel
theorem dX4_eat_13 : decode cX4_eat 13 = .ok (.invokevirtual 84, 3) := by decide +kernel
theorem dX4_eat_16 : decode cX4_eat 16 = .ok (.ifCond .eq 20, 3) := by decide +kernel
theorem dX4_eat_19 : decode cX4_eat 19 = .ok (.iload_n 3, 1) := by decide +kernel
theorem dX4_eat_20 : decode cX4_eat 20 = .ok (.ifCond .ne 19, 3) := by decide +kernel
theorem dX4_eat_23 : decode cX4_eat 23 = .ok (.aload_n 0, 1) := by decide +kernel
theorem dX4_eat_24 : decode cX4_eat 24 = .ok (.iload_n 2, 1) := by decide +kernel
theorem dX4_eat_25 : decode cX4_eat 25 = .ok (.invokevirtual 84, 3) := by decide +kernel
theorem dX4_eat_28 : decode cX4_eat 28 = .ok (.ifCond .eq 8, 3) := by decide +kernel
theorem dX4_eat_31 : decode cX4_eat 31 = .ok (.iload_n 2, 1) := by decide +kernel
theorem dX4_eat_32 : decode cX4_eat 32 = .ok (.iload_n 1, 1) := by decide +kernel
theorem dX4_eat_33 : decode cX4_eat 33 = .ok (.if_icmp .ne 6, 3) := by decide +kernel
theorem dX4_eat_36 : decode cX4_eat 36 = .ok (.bipush (-2), 2) := by decide +kernel
theorem dX4_eat_38 : decode cX4_eat 38 = .ok (.ireturn, 1) := by decide +kernel
theorem dX4_eat_39 : decode cX4_eat 39 = .ok (.aload_n 0, 1) := by decide +kernel
theorem dX4_eat_40 : decode cX4_eat 40 = .ok (.getfield 10, 3) := by decide +kernel
theorem dX4_eat_43 : decode cX4_eat 43 = .ok (.getfield 88, 3) := by decide +kernel
theorem dX4_eat_46 : decode cX4_eat 46 = .ok (.iload_n 1, 1) := by decide +kernel
theorem dX4_eat_47 : decode cX4_eat 47 = .ok (.iaload, 1) := by decide +kernel
theorem dX4_eat_48 : decode cX4_eat 48 = .ok (.iconst 4, 1) := by decide +kernel
theorem dX4_eat_49 : decode cX4_eat 49 = .ok (.if_icmp .ne 18, 3) := by decide +kernel
theorem dX4_eat_52 : decode cX4_eat 52 = .ok (.aload_n 0, 1) := by decide +kernel
theorem dX4_eat_53 : decode cX4_eat 53 = .ok (.getfield 29, 3) := by decide +kernel
theorem dX4_eat_56 : decode cX4_eat 56 = .ok (.aload_n 0, 1) := by decide +kernel
theorem dX4_eat_57 : decode cX4_eat 57 = .ok (.getfield 10, 3) := by decide +kernel
theorem dX4_eat_60 : decode cX4_eat 60 = .ok (.iload_n 1, 1) := by decide +kernel
theorem dX4_eat_61 : decode cX4_eat 61 = .ok (.invokevirtual 146, 3) := by decide +kernel
theorem dX4_eat_64 : decode cX4_eat 64 = .ok (.ifCond .eq 6, 3) := by decide +kernel
theorem dX4_eat_67 : decode cX4_eat 67 = .ok (.bipush (-4), 2) := by decide +kernel
theorem dX4_eat_69 : decode cX4_eat 69 = .ok (.ireturn, 1) := by decide +kernel
theorem dX4_eat_70 : decode cX4_eat 70 = .ok (.iload_n 3, 1) := by decide +kernel
theorem dX4_eat_71 : decode cX4_eat 71 = .ok (.ifCond .ne 15, 3) := by decide +kernel
theorem dX4_eat_74 : decode cX4_eat 74 = .ok (.aload_n 0, 1) := by decide +kernel
theorem dX4_eat_75 : decode cX4_eat 75 = .ok (.iload_n 2, 1) := by decide +kernel
theorem dX4_eat_76 : decode cX4_eat 76 = .ok (.iload_n 1, 1) := by decide +kernel
theorem dX4_eat_77 : decode cX4_eat 77 = .ok (.invokevirtual 156, 3) := by decide +kernel
theorem dX4_eat_80 : decode cX4_eat 80 = .ok (.ifCond .ne 6, 3) := by decide +kernel
theorem dX4_eat_83 : decode cX4_eat 83 = .ok (.bipush (-4), 2) := by decide +kernel
theorem dX4_eat_85 : decode cX4_eat 85 = .ok (.ireturn, 1) := by decide +kernel
theorem dX4_eat_86 : decode cX4_eat 86 = .ok (.aload_n 0, 1) := by decide +kernel
theorem dX4_eat_87 : decode cX4_eat 87 = .ok (.getfield 29, 3) := by decide +kernel
theorem dX4_eat_90 : decode cX4_eat 90 = .ok (.getfield 150, 3) := by decide +kernel
theorem dX4_eat_93 : decode cX4_eat 93 = .ok (.bipush 24, 2) := by decide +kernel
theorem dX4_eat_95 : decode cX4_eat 95 = .ok (.if_icmp .lt 6, 3) := by decide +kernel
theorem dX4_eat_98 : decode cX4_eat 98 = .ok (.bipush (-5), 2) := by decide +kernel
theorem dX4_eat_100 : decode cX4_eat 100 = .ok (.ireturn, 1) := by decide +kernel
theorem dX4_eat_101 : decode cX4_eat 101 = .ok (.aload_n 0, 1) := by decide +kernel
theorem dX4_eat_102 : decode cX4_eat 102 = .ok (.iload_n 1, 1) := by decide +kernel
theorem dX4_eat_103 : decode cX4_eat 103 = .ok (.iload_n 3, 1) := by decide +kernel
theorem dX4_eat_104 : decode cX4_eat 104 = .ok (.ifCond .eq 7, 3) := by decide +kernel
theorem dX4_eat_107 : decode cX4_eat 107 = .ok (.iload_n 1, 1) := by decide +kernel
theorem dX4_eat_108 : decode cX4_eat 108 = .ok (.goto 4, 3) := by decide +kernel
theorem dX4_eat_111 : decode cX4_eat 111 = .ok (.iload_n 2, 1) := by decide +kernel
theorem dX4_eat_112 : decode cX4_eat 112 = .ok (.invokevirtual 159, 3) := by decide +kernel
theorem dX4_eat_115 : decode cX4_eat 115 = .ok (.ireturn, 1) := by decide +kernel
theorem dX4_bathe_0 : decode cX4_bathe 0 = .ok (.aload_n 0, 1) := by decide +kernel
theorem dX4_bathe_1 : decode cX4_bathe 1 = .ok (.getfield 29, 3) := by decide +kernel
theorem dX4_bathe_4 : decode cX4_bathe 4 = .ok (.getfield 150, 3) := by decide +kernel
theorem dX4_bathe_7 : decode cX4_bathe 7 = .ok (.bipush 24, 2) := by decide +kernel
theorem dX4_bathe_9 : decode cX4_bathe 9 = .ok (.if_icmp .lt 6, 3) := by decide +kernel
theorem dX4_bathe_12 : decode cX4_bathe 12 = .ok (.bipush (-5), 2) := by decide +kernel
theorem dX4_bathe_14 : decode cX4_bathe 14 = .ok (.ireturn, 1) := by decide +kernel
theorem dX4_bathe_15 : decode cX4_bathe 15 = .ok (.aload_n 0, 1) := by decide +kernel
theorem dX4_bathe_16 : decode cX4_bathe 16 = .ok (.invokevirtual 163, 3) := by decide +kernel
theorem dX4_bathe_19 : decode cX4_bathe 19 = .ok (.aload_n 0, 1) := by decide +kernel
theorem dX4_bathe_20 : decode cX4_bathe 20 = .ok (.getfield 29, 3) := by decide +kernel
theorem dX4_bathe_23 : decode cX4_bathe 23 = .ok (.dup, 1) := by decide +kernel
theorem dX4_bathe_24 : decode cX4_bathe 24 = .ok (.getfield 140, 3) := by decide +kernel
theorem dX4_bathe_27 : decode cX4_bathe 27 = .ok (.iconst 1, 1) := by decide +kernel
theorem dX4_bathe_28 : decode cX4_bathe 28 = .ok (.aload_n 0, 1) := by decide +kernel
theorem dX4_bathe_29 : decode cX4_bathe 29 = .ok (.getfield 29, 3) := by decide +kernel
theorem dX4_bathe_32 : decode cX4_bathe 32 = .ok (.getfield 150, 3) := by decide +kernel
theorem dX4_bathe_35 : decode cX4_bathe 35 = .ok (.ishl, 1) := by decide +kernel
theorem dX4_bathe_36 : decode cX4_bathe 36 = .ok (.ior, 1) := by decide +kernel
theorem dX4_bathe_37 : decode cX4_bathe 37 = .ok (.putfield 140, 3) := by decide +kernel
theorem dX4_bathe_40 : decode cX4_bathe 40 = .ok (.aload_n 0, 1) := by decide +kernel
theorem dX4_bathe_41 : decode cX4_bathe 41 = .ok (.getfield 29, 3) := by decide +kernel
theorem dX4_bathe_44 : decode cX4_bathe 44 = .ok (.aload_n 0, 1) := by decide +kernel
theorem dX4_bathe_45 : decode cX4_bathe 45 = .ok (.getfield 10, 3) := by decide +kernel
theorem dX4_bathe_48 : decode cX4_bathe 48 = .ok (.invokevirtual 166, 3) := by decide +kernel
theorem dX4_bathe_51 : decode cX4_bathe 51 = .ok (.aload_n 0, 1) := by decide +kernel
theorem dX4_bathe_52 : decode cX4_bathe 52 = .ok (.getfield 29, 3) := by decide +kernel
theorem dX4_bathe_55 : decode cX4_bathe 55 = .ok (.getfield 150, 3) := by decide +kernel
theorem dX4_bathe_58 : decode cX4_bathe 58 = .ok (.ireturn, 1) := by decide +kernel
theorem dX4_idle_0 : decode cX4_idle 0 = .ok (.aload_n 0, 1) := by decide +kernel
theorem dX4_idle_1 : decode cX4_idle 1 = .ok (.getfield 29, 3) := by decide +kernel
theorem dX4_idle_4 : decode cX4_idle 4 = .ok (.getfield 150, 3) := by decide +kernel
theorem dX4_idle_7 : decode cX4_idle 7 = .ok (.bipush 24, 2) := by decide +kernel
theorem dX4_idle_9 : decode cX4_idle 9 = .ok (.if_icmp .lt 6, 3) := by decide +kernel
theorem dX4_idle_12 : decode cX4_idle 12 = .ok (.bipush (-5), 2) := by decide +kernel
theorem dX4_idle_14 : decode cX4_idle 14 = .ok (.ireturn, 1) := by decide +kernel
theorem dX4_idle_15 : decode cX4_idle 15 = .ok (.aload_n 0, 1) := by decide +kernel
theorem dX4_idle_16 : decode cX4_idle 16 = .ok (.invokevirtual 163, 3) := by decide +kernel
theorem dX4_idle_19 : decode cX4_idle 19 = .ok (.aload_n 0, 1) := by decide +kernel
theorem dX4_idle_20 : decode cX4_idle 20 = .ok (.getfield 29, 3) := by decide +kernel
theorem dX4_idle_23 : decode cX4_idle 23 = .ok (.aload_n 0, 1) := by decide +kernel
theorem dX4_idle_24 : decode cX4_idle 24 = .ok (.getfield 10, 3) := by decide +kernel
theorem dX4_idle_27 : decode cX4_idle 27 = .ok (.invokevirtual 166, 3) := by decide +kernel
theorem dX4_idle_30 : decode cX4_idle 30 = .ok (.aload_n 0, 1) := by decide +kernel
theorem dX4_idle_31 : decode cX4_idle 31 = .ok (.getfield 29, 3) := by decide +kernel
theorem dX4_idle_34 : decode cX4_idle 34 = .ok (.getfield 150, 3) := by decide +kernel
theorem dX4_idle_37 : decode cX4_idle 37 = .ok (.ireturn, 1) := by decide +kernel
theorem dX4_undo_0 : decode cX4_undo 0 = .ok (.aload_n 0, 1) := by decide +kernel
theorem dX4_undo_1 : decode cX4_undo 1 = .ok (.getfield 169, 3) := by decide +kernel
theorem dX4_undo_4 : decode cX4_undo 4 = .ok (.ifCond .gt 6, 3) := by decide +kernel
theorem dX4_undo_7 : decode cX4_undo 7 = .ok (.bipush (-4), 2) := by decide +kernel
theorem dX4_undo_9 : decode cX4_undo 9 = .ok (.ireturn, 1) := by decide +kernel
theorem dX4_undo_10 : decode cX4_undo 10 = .ok (.aload_n 0, 1) := by decide +kernel
theorem dX4_undo_11 : decode cX4_undo 11 = .ok (.dup, 1) := by decide +kernel
theorem dX4_undo_12 : decode cX4_undo 12 = .ok (.getfield 169, 3) := by decide +kernel
theorem dX4_undo_15 : decode cX4_undo 15 = .ok (.iconst 1, 1) := by decide +kernel
theorem dX4_undo_16 : decode cX4_undo 16 = .ok (.isub, 1) := by decide +kernel
theorem dX4_undo_17 : decode cX4_undo 17 = .ok (.putfield 169, 3) := by decide +kernel
theorem dX4_undo_20 : decode cX4_undo 20 = .ok (.aload_n 0, 1) := by decide +kernel
theorem dX4_undo_21 : decode cX4_undo 21 = .ok (.getfield 29, 3) := by decide +kernel
theorem dX4_undo_24 : decode cX4_undo 24 = .ok (.aload_n 0, 1) := by decide +kernel
theorem dX4_undo_25 : decode cX4_undo 25 = .ok (.getfield 36, 3) := by decide +kernel
theorem dX4_undo_28 : decode cX4_undo 28 = .ok (.aload_n 0, 1) := by decide +kernel
theorem dX4_undo_29 : decode cX4_undo 29 = .ok (.getfield 169, 3) := by decide +kernel
theorem dX4_undo_32 : decode cX4_undo 32 = .ok (.aaload, 1) := by decide +kernel
theorem dX4_undo_33 : decode cX4_undo 33 = .ok (.invokevirtual 172, 3) := by decide +kernel
theorem dX4_undo_36 : decode cX4_undo 36 = .ok (.aload_n 0, 1) := by decide +kernel
theorem dX4_undo_37 : decode cX4_undo 37 = .ok (.getfield 169, 3) := by decide +kernel
theorem dX4_undo_40 : decode cX4_undo 40 = .ok (.ireturn, 1) := by decide +kernel
theorem dX4_keep_0 : decode cX4_keep 0 = .ok (.iload_n 1, 1) := by decide +kernel
theorem dX4_keep_1 : decode cX4_keep 1 = .ok (.ifCond .lt 8, 3) := by decide +kernel
theorem dX4_keep_4 : decode cX4_keep 4 = .ok (.iload_n 1, 1) := by decide +kernel
theorem dX4_keep_5 : decode cX4_keep 5 = .ok (.iconst 2, 1) := by decide +kernel
theorem dX4_keep_6 : decode cX4_keep 6 = .ok (.if_icmp .lt 6, 3) := by decide +kernel
theorem dX4_keep_9 : decode cX4_keep 9 = .ok (.bipush (-2), 2) := by decide +kernel
theorem dX4_keep_11 : decode cX4_keep 11 = .ok (.ireturn, 1) := by decide +kernel
theorem dX4_keep_12 : decode cX4_keep 12 = .ok (.aload_n 0, 1) := by decide +kernel
theorem dX4_keep_13 : decode cX4_keep 13 = .ok (.getfield 40, 3) := by decide +kernel
theorem dX4_keep_16 : decode cX4_keep 16 = .ok (.iload_n 1, 1) := by decide +kernel
theorem dX4_keep_17 : decode cX4_keep 17 = .ok (.aaload, 1) := by decide +kernel
theorem dX4_keep_18 : decode cX4_keep 18 = .ok (.aload_n 0, 1) := by decide +kernel
theorem dX4_keep_19 : decode cX4_keep 19 = .ok (.getfield 29, 3) := by decide +kernel
theorem dX4_keep_22 : decode cX4_keep 22 = .ok (.invokevirtual 172, 3) := by decide +kernel
theorem dX4_keep_25 : decode cX4_keep 25 = .ok (.aload_n 0, 1) := by decide +kernel
theorem dX4_keep_26 : decode cX4_keep 26 = .ok (.dup, 1) := by decide +kernel
theorem dX4_keep_27 : decode cX4_keep 27 = .ok (.getfield 175, 3) := by decide +kernel
theorem dX4_keep_30 : decode cX4_keep 30 = .ok (.iconst 1, 1) := by decide +kernel
theorem dX4_keep_31 : decode cX4_keep 31 = .ok (.iload_n 1, 1) := by decide +kernel
theorem dX4_keep_32 : decode cX4_keep 32 = .ok (.ishl, 1) := by decide +kernel
theorem dX4_keep_33 : decode cX4_keep 33 = .ok (.ior, 1) := by decide +kernel
theorem dX4_keep_34 : decode cX4_keep 34 = .ok (.putfield 175, 3) := by decide +kernel
theorem dX4_keep_37 : decode cX4_keep 37 = .ok (.aload_n 0, 1) := by decide +kernel
theorem dX4_keep_38 : decode cX4_keep 38 = .ok (.getfield 29, 3) := by decide +kernel
theorem dX4_keep_41 : decode cX4_keep 41 = .ok (.getfield 150, 3) := by decide +kernel
theorem dX4_keep_44 : decode cX4_keep 44 = .ok (.ireturn, 1) := by decide +kernel
theorem dX4_back_0 : decode cX4_back 0 = .ok (.iload_n 1, 1) := by decide +kernel
theorem dX4_back_1 : decode cX4_back 1 = .ok (.ifCond .lt 8, 3) := by decide +kernel
theorem dX4_back_4 : decode cX4_back 4 = .ok (.iload_n 1, 1) := by decide +kernel
theorem dX4_back_5 : decode cX4_back 5 = .ok (.iconst 2, 1) := by decide +kernel
theorem dX4_back_6 : decode cX4_back 6 = .ok (.if_icmp .lt 6, 3) := by decide +kernel
theorem dX4_back_9 : decode cX4_back 9 = .ok (.bipush (-2), 2) := by decide +kernel
theorem dX4_back_11 : decode cX4_back 11 = .ok (.ireturn, 1) := by decide +kernel
theorem dX4_back_12 : decode cX4_back 12 = .ok (.aload_n 0, 1) := by decide +kernel
theorem dX4_back_13 : decode cX4_back 13 = .ok (.getfield 175, 3) := by decide +kernel
theorem dX4_back_16 : decode cX4_back 16 = .ok (.iload_n 1, 1) := by decide +kernel
theorem dX4_back_17 : decode cX4_back 17 = .ok (.invokestatic 107, 3) := by decide +kernel
theorem dX4_back_20 : decode cX4_back 20 = .ok (.ifCond .ne 6, 3) := by decide +kernel
theorem dX4_back_23 : decode cX4_back 23 = .ok (.bipush (-4), 2) := by decide +kernel
theorem dX4_back_25 : decode cX4_back 25 = .ok (.ireturn, 1) := by decide +kernel
theorem dX4_back_26 : decode cX4_back 26 = .ok (.aload_n 0, 1) := by decide +kernel
theorem dX4_back_27 : decode cX4_back 27 = .ok (.getfield 29, 3) := by decide +kernel
theorem dX4_back_30 : decode cX4_back 30 = .ok (.aload_n 0, 1) := by decide +kernel
theorem dX4_back_31 : decode cX4_back 31 = .ok (.getfield 40, 3) := by decide +kernel
theorem dX4_back_34 : decode cX4_back 34 = .ok (.iload_n 1, 1) := by decide +kernel
theorem dX4_back_35 : decode cX4_back 35 = .ok (.aaload, 1) := by decide +kernel
theorem dX4_back_36 : decode cX4_back 36 = .ok (.invokevirtual 172, 3) := by decide +kernel
theorem dX4_back_39 : decode cX4_back 39 = .ok (.aload_n 0, 1) := by decide +kernel
theorem dX4_back_40 : decode cX4_back 40 = .ok (.iconst 0, 1) := by decide +kernel
theorem dX4_back_41 : decode cX4_back 41 = .ok (.putfield 169, 3) := by decide +kernel
theorem dX4_back_44 : decode cX4_back 44 = .ok (.aload_n 0, 1) := by decide +kernel
theorem dX4_back_45 : decode cX4_back 45 = .ok (.getfield 29, 3) := by decide +kernel
theorem dX4_back_48 : decode cX4_back 48 = .ok (.getfield 150, 3) := by decide +kernel
theorem dX4_back_51 : decode cX4_back 51 = .ok (.ireturn, 1) := by decide +kernel
theorem dX4_town_0 : decode cX4_town 0 = .ok (.iload_n 1, 1) := by decide +kernel
theorem dX4_town_1 : decode cX4_town 1 = .ok (.ifCond .lt 18, 3) := by decide +kernel
theorem dX4_town_4 : decode cX4_town 4 = .ok (.iload_n 1, 1) := by decide +kernel
theorem dX4_town_5 : decode cX4_town 5 = .ok (.bipush 8, 2) := by decide +kernel
theorem dX4_town_7 : decode cX4_town 7 = .ok (.if_icmp .gt 12, 3) := by decide +kernel
theorem dX4_town_10 : decode cX4_town 10 = .ok (.iload_n 2, 1) := by decide +kernel
theorem dX4_town_11 : decode cX4_town 11 = .ok (.ifCond .lt 8, 3) := by decide +kernel
theorem dX4_town_14 : decode cX4_town 14 = .ok (.iload_n 2, 1) := by decide +kernel
theorem dX4_town_15 : decode cX4_town 15 = .ok (.iconst 1, 1) := by decide +kernel
theorem dX4_town_16 : decode cX4_town 16 = .ok (.if_icmp .le 6, 3) := by decide +kernel
theorem dX4_town_19 : decode cX4_town 19 = .ok (.bipush (-3), 2) := by decide +kernel
theorem dX4_town_21 : decode cX4_town 21 = .ok (.ireturn, 1) := by decide +kernel
theorem dX4_town_22 : decode cX4_town 22 = .ok (.aload_n 0, 1) := by decide +kernel
theorem dX4_town_23 : decode cX4_town 23 = .ok (.invokevirtual 178, 3) := by decide +kernel
theorem dX4_town_26 : decode cX4_town 26 = .ok (.istore_n 3, 1) := by decide +kernel
theorem dX4_town_27 : decode cX4_town 27 = .ok (.iconst (-1), 1) := by decide +kernel
theorem dX4_town_28 : decode cX4_town 28 = .ok (.istore 4, 2) := by decide +kernel
theorem dX4_town_30 : decode cX4_town 30 = .ok (.iconst (-1), 1) := by decide +kernel
theorem dX4_town_31 : decode cX4_town 31 = .ok (.istore 5, 2) := by decide +kernel
theorem dX4_town_33 : decode cX4_town 33 = .ok (.iconst 0, 1) := by decide +kernel
theorem dX4_town_34 : decode cX4_town 34 = .ok (.istore 6, 2) := by decide +kernel
theorem dX4_town_36 : decode cX4_town 36 = .ok (.iload 6, 2) := by decide +kernel
theorem dX4_town_38 : decode cX4_town 38 = .ok (.sipush 256, 3) := by decide +kernel
theorem dX4_town_41 : decode cX4_town 41 = .ok (.if_icmp .ge 107, 3) := by decide +kernel
theorem dX4_town_44 : decode cX4_town 44 = .ok (.iload 6, 2) := by decide +kernel
theorem dX4_town_46 : decode cX4_town 46 = .ok (.iload_n 3, 1) := by decide +kernel
theorem dX4_town_47 : decode cX4_town 47 = .ok (.iconst (-1), 1) := by decide +kernel
theorem dX4_town_48 : decode cX4_town 48 = .ok (.ixor, 1) := by decide +kernel
theorem dX4_town_49 : decode cX4_town 49 = .ok (.iand, 1) := by decide +kernel
theorem dX4_town_50 : decode cX4_town 50 = .ok (.ifCond .eq 6, 3) := by decide +kernel
theorem dX4_town_53 : decode cX4_town 53 = .ok (.goto 89, 3) := by decide +kernel
theorem dX4_town_56 : decode cX4_town 56 = .ok (.aload_n 0, 1) := by decide +kernel
theorem dX4_town_57 : decode cX4_town 57 = .ok (.getfield 33, 3) := by decide +kernel
theorem dX4_town_60 : decode cX4_town 60 = .ok (.aload_n 0, 1) := by decide +kernel
theorem dX4_town_61 : decode cX4_town 61 = .ok (.getfield 29, 3) := by decide +kernel
theorem dX4_town_64 : decode cX4_town 64 = .ok (.invokevirtual 172, 3) := by decide +kernel
theorem dX4_town_67 : decode cX4_town 67 = .ok (.aload_n 0, 1) := by decide +kernel
theorem dX4_town_68 : decode cX4_town 68 = .ok (.getfield 33, 3) := by decide +kernel
theorem dX4_town_71 : decode cX4_town 71 = .ok (.dup, 1) := by decide +kernel
theorem dX4_town_72 : decode cX4_town 72 = .ok (.getfield 182, 3) := by decide +kernel
theorem dX4_town_75 : decode cX4_town 75 = .ok (.iload 6, 2) := by decide +kernel
theorem dX4_town_77 : decode cX4_town 77 = .ok (.ior, 1) := by decide +kernel
theorem dX4_town_78 : decode cX4_town 78 = .ok (.putfield 182, 3) := by decide +kernel
theorem dX4_town_81 : decode cX4_town 81 = .ok (.aload_n 0, 1) := by decide +kernel
theorem dX4_town_82 : decode cX4_town 82 = .ok (.getfield 33, 3) := by decide +kernel
theorem dX4_town_85 : decode cX4_town 85 = .ok (.aload_n 0, 1) := by decide +kernel
theorem dX4_town_86 : decode cX4_town 86 = .ok (.getfield 10, 3) := by decide +kernel
theorem dX4_town_89 : decode cX4_town 89 = .ok (.invokevirtual 185, 3) := by decide +kernel
theorem dX4_town_92 : decode cX4_town 92 = .ok (.iconst (-1), 1) := by decide +kernel
theorem dX4_town_93 : decode cX4_town 93 = .ok (.if_icmp .ne 49, 3) := by decide +kernel
theorem dX4_town_96 : decode cX4_town 96 = .ok (.aload_n 0, 1) := by decide +kernel
theorem dX4_town_97 : decode cX4_town 97 = .ok (.getfield 33, 3) := by decide +kernel
theorem dX4_town_100 : decode cX4_town 100 = .ok (.aload_n 0, 1) := by decide +kernel
theorem dX4_town_101 : decode cX4_town 101 = .ok (.getfield 10, 3) := by decide +kernel
theorem dX4_town_104 : decode cX4_town 104 = .ok (.invokevirtual 188, 3) := by decide +kernel
theorem dX4_town_107 : decode cX4_town 107 = .ok (.iload_n 1, 1) := by decide +kernel
theorem dX4_town_108 : decode cX4_town 108 = .ok (.if_icmp .ge 6, 3) := by decide +kernel
theorem dX4_town_111 : decode cX4_town 111 = .ok (.goto 31, 3) := by decide +kernel
theorem dX4_town_114 : decode cX4_town 114 = .ok (.aload_n 0, 1) := by decide +kernel
theorem dX4_town_115 : decode cX4_town 115 = .ok (.getfield 33, 3) := by decide +kernel
theorem dX4_town_118 : decode cX4_town 118 = .ok (.aload_n 0, 1) := by decide +kernel
theorem dX4_town_119 : decode cX4_town 119 = .ok (.getfield 10, 3) := by decide +kernel
theorem dX4_town_122 : decode cX4_town 122 = .ok (.invokevirtual 191, 3) := by decide +kernel
theorem dX4_town_125 : decode cX4_town 125 = .ok (.istore 7, 2) := by decide +kernel
theorem dX4_town_127 : decode cX4_town 127 = .ok (.iload 7, 2) := by decide +kernel
theorem dX4_town_129 : decode cX4_town 129 = .ok (.iload 4, 2) := by decide +kernel
theorem dX4_town_131 : decode cX4_town 131 = .ok (.if_icmp .le 11, 3) := by decide +kernel
theorem dX4_town_134 : decode cX4_town 134 = .ok (.iload 7, 2) := by decide +kernel
theorem dX4_town_136 : decode cX4_town 136 = .ok (.istore 4, 2) := by decide +kernel
theorem dX4_town_138 : decode cX4_town 138 = .ok (.iload 6, 2) := by decide +kernel
theorem dX4_town_140 : decode cX4_town 140 = .ok (.istore 5, 2) := by decide +kernel
theorem dX4_town_142 : decode cX4_town 142 = .ok (.iinc 6 1, 3) := by decide +kernel
theorem dX4_town_145 : decode cX4_town 145 = .ok (.goto (-109), 3) := by decide +kernel
theorem dX4_town_148 : decode cX4_town 148 = .ok (.iload_n 2, 1) := by decide +kernel
theorem dX4_town_149 : decode cX4_town 149 = .ok (.ifCond .ne 8, 3) := by decide +kernel
theorem dX4_town_152 : decode cX4_town 152 = .ok (.iload 4, 2) := by decide +kernel
theorem dX4_town_154 : decode cX4_town 154 = .ok (.goto 5, 3) := by decide +kernel
theorem dX4_town_157 : decode cX4_town 157 = .ok (.iload 5, 2) := by decide +kernel
theorem dX4_town_159 : decode cX4_town 159 = .ok (.ireturn, 1) := by decide +kernel
theorem dX4_put_0 : decode cX4_put 0 = .ok (.aload_n 0, 1) := by decide +kernel
theorem dX4_put_1 : decode cX4_put 1 = .ok (.iload_n 1, 1) := by decide +kernel
theorem dX4_put_2 : decode cX4_put 2 = .ok (.invokevirtual 84, 3) := by decide +kernel
theorem dX4_put_5 : decode cX4_put 5 = .ok (.ifCond .ne 6, 3) := by decide +kernel
theorem dX4_put_8 : decode cX4_put 8 = .ok (.bipush (-2), 2) := by decide +kernel
theorem dX4_put_10 : decode cX4_put 10 = .ok (.ireturn, 1) := by decide +kernel
theorem dX4_put_11 : decode cX4_put 11 = .ok (.aload_n 0, 1) := by decide +kernel
theorem dX4_put_12 : decode cX4_put 12 = .ok (.getfield 194, 3) := by decide +kernel
theorem dX4_put_15 : decode cX4_put 15 = .ok (.bipush 8, 2) := by decide +kernel
theorem dX4_put_17 : decode cX4_put 17 = .ok (.if_icmp .lt 6, 3) := by decide +kernel
theorem dX4_put_20 : decode cX4_put 20 = .ok (.bipush (-5), 2) := by decide +kernel
theorem dX4_put_22 : decode cX4_put 22 = .ok (.ireturn, 1) := by decide +kernel
theorem dX4_put_23 : decode cX4_put 23 = .ok (.aload_n 0, 1) := by decide +kernel
theorem dX4_put_24 : decode cX4_put 24 = .ok (.getfield 43, 3) := by decide +kernel
theorem dX4_put_27 : decode cX4_put 27 = .ok (.aload_n 0, 1) := by decide +kernel
theorem dX4_put_28 : decode cX4_put 28 = .ok (.getfield 194, 3) := by decide +kernel
theorem dX4_put_31 : decode cX4_put 31 = .ok (.iload_n 1, 1) := by decide +kernel
theorem dX4_put_32 : decode cX4_put 32 = .ok (.iastore, 1) := by decide +kernel
theorem dX4_put_33 : decode cX4_put 33 = .ok (.aload_n 0, 1) := by decide +kernel
theorem dX4_put_34 : decode cX4_put 34 = .ok (.dup, 1) := by decide +kernel
theorem dX4_put_35 : decode cX4_put 35 = .ok (.getfield 194, 3) := by decide +kernel
theorem dX4_put_38 : decode cX4_put 38 = .ok (.iconst 1, 1) := by decide +kernel
theorem dX4_put_39 : decode cX4_put 39 = .ok (.iadd, 1) := by decide +kernel
theorem dX4_put_40 : decode cX4_put 40 = .ok (.putfield 194, 3) := by decide +kernel
theorem dX4_put_43 : decode cX4_put 43 = .ok (.aload_n 0, 1) := by decide +kernel
theorem dX4_put_44 : decode cX4_put 44 = .ok (.getfield 194, 3) := by decide +kernel
theorem dX4_put_47 : decode cX4_put 47 = .ok (.ireturn, 1) := by decide +kernel
theorem dX4_wipe_0 : decode cX4_wipe 0 = .ok (.aload_n 0, 1) := by decide +kernel
theorem dX4_wipe_1 : decode cX4_wipe 1 = .ok (.getfield 194, 3) := by decide +kernel
theorem dX4_wipe_4 : decode cX4_wipe 4 = .ok (.istore_n 1, 1) := by decide +kernel
theorem dX4_wipe_5 : decode cX4_wipe 5 = .ok (.aload_n 0, 1) := by decide +kernel
theorem dX4_wipe_6 : decode cX4_wipe 6 = .ok (.iconst 0, 1) := by decide +kernel
theorem dX4_wipe_7 : decode cX4_wipe 7 = .ok (.putfield 194, 3) := by decide +kernel
theorem dX4_wipe_10 : decode cX4_wipe 10 = .ok (.iload_n 1, 1) := by decide +kernel
theorem dX4_wipe_11 : decode cX4_wipe 11 = .ok (.ireturn, 1) := by decide +kernel
theorem dX4_goes_0 : decode cX4_goes 0 = .ok (.iload_n 1, 1) := by decide +kernel
theorem dX4_goes_1 : decode cX4_goes 1 = .ok (.ifCond .lt 8, 3) := by decide +kernel
theorem dX4_goes_4 : decode cX4_goes 4 = .ok (.iload_n 1, 1) := by decide +kernel
theorem dX4_goes_5 : decode cX4_goes 5 = .ok (.iconst 1, 1) := by decide +kernel
theorem dX4_goes_6 : decode cX4_goes 6 = .ok (.if_icmp .le 6, 3) := by decide +kernel
theorem dX4_goes_9 : decode cX4_goes 9 = .ok (.bipush (-3), 2) := by decide +kernel
theorem dX4_goes_11 : decode cX4_goes 11 = .ok (.ireturn, 1) := by decide +kernel
theorem dX4_goes_12 : decode cX4_goes 12 = .ok (.aload_n 0, 1) := by decide +kernel
theorem dX4_goes_13 : decode cX4_goes 13 = .ok (.getfield 33, 3) := by decide +kernel
theorem dX4_goes_16 : decode cX4_goes 16 = .ok (.aload_n 0, 1) := by decide +kernel
theorem dX4_goes_17 : decode cX4_goes 17 = .ok (.getfield 29, 3) := by decide +kernel
theorem dX4_goes_20 : decode cX4_goes 20 = .ok (.invokevirtual 172, 3) := by decide +kernel
theorem dX4_goes_23 : decode cX4_goes 23 = .ok (.iconst 0, 1) := by decide +kernel
theorem dX4_goes_24 : decode cX4_goes 24 = .ok (.istore_n 2, 1) := by decide +kernel
theorem dX4_goes_25 : decode cX4_goes 25 = .ok (.iload_n 2, 1) := by decide +kernel
theorem dX4_goes_26 : decode cX4_goes 26 = .ok (.aload_n 0, 1) := by decide +kernel
theorem dX4_goes_27 : decode cX4_goes 27 = .ok (.getfield 194, 3) := by decide +kernel
theorem dX4_goes_30 : decode cX4_goes 30 = .ok (.if_icmp .ge 56, 3) := by decide +kernel
theorem dX4_goes_33 : decode cX4_goes 33 = .ok (.aload_n 0, 1) := by decide +kernel
theorem dX4_goes_34 : decode cX4_goes 34 = .ok (.getfield 33, 3) := by decide +kernel
theorem dX4_goes_37 : decode cX4_goes 37 = .ok (.dup, 1) := by decide +kernel
theorem dX4_goes_38 : decode cX4_goes 38 = .ok (.getfield 182, 3) := by decide +kernel
theorem dX4_goes_41 : decode cX4_goes 41 = .ok (.iconst 1, 1) := by decide +kernel
theorem dX4_goes_42 : decode cX4_goes 42 = .ok (.aload_n 0, 1) := by decide +kernel
theorem dX4_goes_43 : decode cX4_goes 43 = .ok (.getfield 43, 3) := by decide +kernel
theorem dX4_goes_46 : decode cX4_goes 46 = .ok (.iload_n 2, 1) := by decide +kernel
theorem dX4_goes_47 : decode cX4_goes 47 = .ok (.iaload, 1) := by decide +kernel
theorem dX4_goes_48 : decode cX4_goes 48 = .ok (.ishl, 1) := by decide +kernel
theorem dX4_goes_49 : decode cX4_goes 49 = .ok (.ior, 1) := by decide +kernel
theorem dX4_goes_50 : decode cX4_goes 50 = .ok (.putfield 182, 3) := by decide +kernel
theorem dX4_goes_53 : decode cX4_goes 53 = .ok (.aload_n 0, 1) := by decide +kernel
theorem dX4_goes_54 : decode cX4_goes 54 = .ok (.getfield 33, 3) := by decide +kernel
theorem dX4_goes_57 : decode cX4_goes 57 = .ok (.aload_n 0, 1) := by decide +kernel
theorem dX4_goes_58 : decode cX4_goes 58 = .ok (.getfield 10, 3) := by decide +kernel
theorem dX4_goes_61 : decode cX4_goes 61 = .ok (.invokevirtual 185, 3) := by decide +kernel
theorem dX4_goes_64 : decode cX4_goes 64 = .ok (.istore_n 3, 1) := by decide +kernel
theorem dX4_goes_65 : decode cX4_goes 65 = .ok (.iload_n 3, 1) := by decide +kernel
theorem dX4_goes_66 : decode cX4_goes 66 = .ok (.iconst (-1), 1) := by decide +kernel
theorem dX4_goes_67 : decode cX4_goes 67 = .ok (.if_icmp .eq 13, 3) := by decide +kernel
theorem dX4_goes_70 : decode cX4_goes 70 = .ok (.iload_n 1, 1) := by decide +kernel
theorem dX4_goes_71 : decode cX4_goes 71 = .ok (.ifCond .ne 7, 3) := by decide +kernel
theorem dX4_goes_74 : decode cX4_goes 74 = .ok (.iload_n 2, 1) := by decide +kernel
theorem dX4_goes_75 : decode cX4_goes 75 = .ok (.goto 4, 3) := by decide +kernel
theorem dX4_goes_78 : decode cX4_goes 78 = .ok (.iload_n 3, 1) := by decide +kernel
theorem dX4_goes_79 : decode cX4_goes 79 = .ok (.ireturn, 1) := by decide +kernel
theorem dX4_goes_80 : decode cX4_goes 80 = .ok (.iinc 2 1, 3) := by decide +kernel
theorem dX4_goes_83 : decode cX4_goes 83 = .ok (.goto (-58), 3) := by decide +kernel
theorem dX4_goes_86 : decode cX4_goes 86 = .ok (.iconst (-1), 1) := by decide +kernel
theorem dX4_goes_87 : decode cX4_goes 87 = .ok (.ireturn, 1) := by decide +kernel
theorem dX4_task_0 : decode cX4_task 0 = .ok (.aload_n 0, 1) := by decide +kernel
theorem dX4_task_1 : decode cX4_task 1 = .ok (.iload_n 1, 1) := by decide +kernel
theorem dX4_task_2 : decode cX4_task 2 = .ok (.invokevirtual 84, 3) := by decide +kernel
theorem dX4_task_5 : decode cX4_task 5 = .ok (.ifCond .ne 6, 3) := by decide +kernel
theorem dX4_task_8 : decode cX4_task 8 = .ok (.bipush (-2), 2) := by decide +kernel
theorem dX4_task_10 : decode cX4_task 10 = .ok (.ireturn, 1) := by decide +kernel
theorem dX4_task_11 : decode cX4_task 11 = .ok (.aload_n 0, 1) := by decide +kernel
theorem dX4_task_12 : decode cX4_task 12 = .ok (.getfield 133, 3) := by decide +kernel
theorem dX4_task_15 : decode cX4_task 15 = .ok (.iload_n 1, 1) := by decide +kernel
theorem dX4_task_16 : decode cX4_task 16 = .ok (.invokestatic 107, 3) := by decide +kernel
theorem dX4_task_19 : decode cX4_task 19 = .ok (.ifCond .eq 6, 3) := by decide +kernel
theorem dX4_task_22 : decode cX4_task 22 = .ok (.bipush (-4), 2) := by decide +kernel
theorem dX4_task_24 : decode cX4_task 24 = .ok (.ireturn, 1) := by decide +kernel
theorem dX4_task_25 : decode cX4_task 25 = .ok (.aload_n 0, 1) := by decide +kernel
theorem dX4_task_26 : decode cX4_task 26 = .ok (.getfield 133, 3) := by decide +kernel
theorem dX4_task_29 : decode cX4_task 29 = .ok (.invokestatic 197, 3) := by decide +kernel
theorem dX4_task_32 : decode cX4_task 32 = .ok (.iconst 4, 1) := by decide +kernel
theorem dX4_task_33 : decode cX4_task 33 = .ok (.if_icmp .lt 6, 3) := by decide +kernel
theorem dX4_task_36 : decode cX4_task 36 = .ok (.bipush (-5), 2) := by decide +kernel
theorem dX4_task_38 : decode cX4_task 38 = .ok (.ireturn, 1) := by decide +kernel
theorem dX4_task_39 : decode cX4_task 39 = .ok (.aload_n 0, 1) := by decide +kernel
theorem dX4_task_40 : decode cX4_task 40 = .ok (.dup, 1) := by decide +kernel
theorem dX4_task_41 : decode cX4_task 41 = .ok (.getfield 133, 3) := by decide +kernel
theorem dX4_task_44 : decode cX4_task 44 = .ok (.iconst 1, 1) := by decide +kernel
theorem dX4_task_45 : decode cX4_task 45 = .ok (.iload_n 1, 1) := by decide +kernel
theorem dX4_task_46 : decode cX4_task 46 = .ok (.ishl, 1) := by decide +kernel
theorem dX4_task_47 : decode cX4_task 47 = .ok (.ior, 1) := by decide +kernel
theorem dX4_task_48 : decode cX4_task 48 = .ok (.putfield 133, 3) := by decide +kernel
theorem dX4_task_51 : decode cX4_task 51 = .ok (.aload_n 0, 1) := by decide +kernel
theorem dX4_task_52 : decode cX4_task 52 = .ok (.getfield 133, 3) := by decide +kernel
theorem dX4_task_55 : decode cX4_task 55 = .ok (.invokestatic 197, 3) := by decide +kernel
theorem dX4_task_58 : decode cX4_task 58 = .ok (.ireturn, 1) := by decide +kernel
theorem dX4_drop_0 : decode cX4_drop 0 = .ok (.aload_n 0, 1) := by decide +kernel
theorem dX4_drop_1 : decode cX4_drop 1 = .ok (.getfield 133, 3) := by decide +kernel
theorem dX4_drop_4 : decode cX4_drop 4 = .ok (.invokestatic 197, 3) := by decide +kernel
theorem dX4_drop_7 : decode cX4_drop 7 = .ok (.istore_n 1, 1) := by decide +kernel
theorem dX4_drop_8 : decode cX4_drop 8 = .ok (.aload_n 0, 1) := by decide +kernel
theorem dX4_drop_9 : decode cX4_drop 9 = .ok (.iconst 0, 1) := by decide +kernel
theorem dX4_drop_10 : decode cX4_drop 10 = .ok (.putfield 133, 3) := by decide +kernel
theorem dX4_drop_13 : decode cX4_drop 13 = .ok (.iload_n 1, 1) := by decide +kernel
theorem dX4_drop_14 : decode cX4_drop 14 = .ok (.ireturn, 1) := by decide +kernel
theorem dX4_plan_0 : decode cX4_plan 0 = .ok (.iload_n 1, 1) := by decide +kernel
theorem dX4_plan_1 : decode cX4_plan 1 = .ok (.ifCond .lt 8, 3) := by decide +kernel
theorem dX4_plan_4 : decode cX4_plan 4 = .ok (.iload_n 1, 1) := by decide +kernel
theorem dX4_plan_5 : decode cX4_plan 5 = .ok (.iconst 2, 1) := by decide +kernel
theorem dX4_plan_6 : decode cX4_plan 6 = .ok (.if_icmp .le 6, 3) := by decide +kernel
theorem dX4_plan_9 : decode cX4_plan 9 = .ok (.bipush (-3), 2) := by decide +kernel
theorem dX4_plan_11 : decode cX4_plan 11 = .ok (.ireturn, 1) := by decide +kernel
theorem dX4_plan_12 : decode cX4_plan 12 = .ok (.aload_n 0, 1) := by decide +kernel
theorem dX4_plan_13 : decode cX4_plan 13 = .ok (.getfield 133, 3) := by decide +kernel
theorem dX4_plan_16 : decode cX4_plan 16 = .ok (.ifCond .ne 13, 3) := by decide +kernel
theorem dX4_plan_19 : decode cX4_plan 19 = .ok (.iload_n 1, 1) := by decide +kernel
theorem dX4_plan_20 : decode cX4_plan 20 = .ok (.ifCond .ne 7, 3) := by decide +kernel
theorem dX4_plan_23 : decode cX4_plan 23 = .ok (.iconst 0, 1) := by decide +kernel
theorem dX4_plan_24 : decode cX4_plan 24 = .ok (.goto 4, 3) := by decide +kernel
theorem dX4_plan_27 : decode cX4_plan 27 = .ok (.iconst (-1), 1) := by decide +kernel
theorem dX4_plan_28 : decode cX4_plan 28 = .ok (.ireturn, 1) := by decide +kernel
theorem dX4_plan_29 : decode cX4_plan 29 = .ok (.aload_n 0, 1) := by decide +kernel
theorem dX4_plan_30 : decode cX4_plan 30 = .ok (.getfield 50, 3) := by decide +kernel
theorem dX4_plan_33 : decode cX4_plan 33 = .ok (.aload_n 0, 1) := by decide +kernel
theorem dX4_plan_34 : decode cX4_plan 34 = .ok (.getfield 10, 3) := by decide +kernel
theorem dX4_plan_37 : decode cX4_plan 37 = .ok (.aload_n 0, 1) := by decide +kernel
theorem dX4_plan_38 : decode cX4_plan 38 = .ok (.getfield 29, 3) := by decide +kernel
theorem dX4_plan_41 : decode cX4_plan 41 = .ok (.aload_n 0, 1) := by decide +kernel
theorem dX4_plan_42 : decode cX4_plan 42 = .ok (.getfield 133, 3) := by decide +kernel
theorem dX4_plan_45 : decode cX4_plan 45 = .ok (.invokevirtual 202, 3) := by decide +kernel
theorem dX4_plan_48 : decode cX4_plan 48 = .ok (.ifCond .ne 5, 3) := by decide +kernel
theorem dX4_plan_51 : decode cX4_plan 51 = .ok (.iconst (-1), 1) := by decide +kernel
theorem dX4_plan_52 : decode cX4_plan 52 = .ok (.ireturn, 1) := by decide +kernel
theorem dX4_plan_53 : decode cX4_plan 53 = .ok (.iload_n 1, 1) := by decide +kernel
theorem dX4_plan_54 : decode cX4_plan 54 = .ok (.lookupswitch 42 #[(0, 26), (1, 34)], 26) := by decide +kernel
theorem dX4_plan_80 : decode cX4_plan 80 = .ok (.aload_n 0, 1) := by decide +kernel
theorem dX4_plan_81 : decode cX4_plan 81 = .ok (.getfield 50, 3) := by decide +kernel
theorem dX4_plan_84 : decode cX4_plan 84 = .ok (.getfield 206, 3) := by decide +kernel
theorem dX4_plan_87 : decode cX4_plan 87 = .ok (.ireturn, 1) := by decide +kernel
theorem dX4_plan_88 : decode cX4_plan 88 = .ok (.aload_n 0, 1) := by decide +kernel
theorem dX4_plan_89 : decode cX4_plan 89 = .ok (.getfield 50, 3) := by decide +kernel
theorem dX4_plan_92 : decode cX4_plan 92 = .ok (.getfield 209, 3) := by decide +kernel
theorem dX4_plan_95 : decode cX4_plan 95 = .ok (.ireturn, 1) := by decide +kernel
theorem dX4_plan_96 : decode cX4_plan 96 = .ok (.aload_n 0, 1) := by decide +kernel
theorem dX4_plan_97 : decode cX4_plan 97 = .ok (.getfield 50, 3) := by decide +kernel
theorem dX4_plan_100 : decode cX4_plan 100 = .ok (.getfield 212, 3) := by decide +kernel
theorem dX4_plan_103 : decode cX4_plan 103 = .ok (.ireturn, 1) := by decide +kernel
theorem dX4_price_0 : decode cX4_price 0 = .ok (.iload_n 1, 1) := by decide +kernel
theorem dX4_price_1 : decode cX4_price 1 = .ok (.aload_n 0, 1) := by decide +kernel
theorem dX4_price_2 : decode cX4_price 2 = .ok (.getfield 29, 3) := by decide +kernel
theorem dX4_price_5 : decode cX4_price 5 = .ok (.getfield 150, 3) := by decide +kernel
theorem dX4_price_8 : decode cX4_price 8 = .ok (.if_icmp .lt 9, 3) := by decide +kernel
theorem dX4_price_11 : decode cX4_price 11 = .ok (.iload_n 1, 1) := by decide +kernel
theorem dX4_price_12 : decode cX4_price 12 = .ok (.bipush 24, 2) := by decide +kernel
theorem dX4_price_14 : decode cX4_price 14 = .ok (.if_icmp .le 6, 3) := by decide +kernel
theorem dX4_price_17 : decode cX4_price 17 = .ok (.bipush (-3), 2) := by decide +kernel
theorem dX4_price_19 : decode cX4_price 19 = .ok (.ireturn, 1) := by decide +kernel
theorem dX4_price_20 : decode cX4_price 20 = .ok (.aload_n 0, 1) := by decide +kernel
theorem dX4_price_21 : decode cX4_price 21 = .ok (.getfield 33, 3) := by decide +kernel
theorem dX4_price_24 : decode cX4_price 24 = .ok (.aload_n 0, 1) := by decide +kernel
theorem dX4_price_25 : decode cX4_price 25 = .ok (.getfield 29, 3) := by decide +kernel
theorem dX4_price_28 : decode cX4_price 28 = .ok (.invokevirtual 172, 3) := by decide +kernel
theorem dX4_price_31 : decode cX4_price 31 = .ok (.aload_n 0, 1) := by decide +kernel
theorem dX4_price_32 : decode cX4_price 32 = .ok (.getfield 29, 3) := by decide +kernel
theorem dX4_price_35 : decode cX4_price 35 = .ok (.getfield 150, 3) := by decide +kernel
theorem dX4_price_38 : decode cX4_price 38 = .ok (.istore_n 2, 1) := by decide +kernel
theorem dX4_price_39 : decode cX4_price 39 = .ok (.iload_n 2, 1) := by decide +kernel
theorem dX4_price_40 : decode cX4_price 40 = .ok (.iload_n 1, 1) := by decide +kernel
theorem dX4_price_41 : decode cX4_price 41 = .ok (.if_icmp .ge 20, 3) := by decide +kernel
theorem dX4_price_44 : decode cX4_price 44 = .ok (.aload_n 0, 1) := by decide +kernel
theorem dX4_price_45 : decode cX4_price 45 = .ok (.getfield 33, 3) := by decide +kernel
theorem dX4_price_48 : decode cX4_price 48 = .ok (.aload_n 0, 1) := by decide +kernel
theorem dX4_price_49 : decode cX4_price 49 = .ok (.getfield 10, 3) := by decide +kernel
theorem dX4_price_52 : decode cX4_price 52 = .ok (.invokevirtual 166, 3) := by decide +kernel
theorem dX4_price_55 : decode cX4_price 55 = .ok (.iinc 2 1, 3) := by decide +kernel
theorem dX4_price_58 : decode cX4_price 58 = .ok (.goto (-19), 3) := by decide +kernel
theorem dX4_price_61 : decode cX4_price 61 = .ok (.aload_n 0, 1) := by decide +kernel
theorem dX4_price_62 : decode cX4_price 62 = .ok (.getfield 33, 3) := by decide +kernel
theorem dX4_price_65 : decode cX4_price 65 = .ok (.aload_n 0, 1) := by decide +kernel
theorem dX4_price_66 : decode cX4_price 66 = .ok (.getfield 10, 3) := by decide +kernel
theorem dX4_price_69 : decode cX4_price 69 = .ok (.invokevirtual 191, 3) := by decide +kernel
theorem dX4_price_72 : decode cX4_price 72 = .ok (.ireturn, 1) := by decide +kernel
theorem dX4_sell_0 : decode cX4_sell 0 = .ok (.iload_n 1, 1) := by decide +kernel
theorem dX4_sell_1 : decode cX4_sell 1 = .ok (.ifCond .lt 8, 3) := by decide +kernel
theorem dX4_sell_4 : decode cX4_sell 4 = .ok (.iload_n 1, 1) := by decide +kernel
theorem dX4_sell_5 : decode cX4_sell 5 = .ok (.iconst 1, 1) := by decide +kernel
theorem dX4_sell_6 : decode cX4_sell 6 = .ok (.if_icmp .le 6, 3) := by decide +kernel
theorem dX4_sell_9 : decode cX4_sell 9 = .ok (.bipush (-3), 2) := by decide +kernel
theorem dX4_sell_11 : decode cX4_sell 11 = .ok (.ireturn, 1) := by decide +kernel
theorem dX4_sell_12 : decode cX4_sell 12 = .ok (.aload_n 0, 1) := by decide +kernel
theorem dX4_sell_13 : decode cX4_sell 13 = .ok (.getfield 33, 3) := by decide +kernel
theorem dX4_sell_16 : decode cX4_sell 16 = .ok (.aload_n 0, 1) := by decide +kernel
theorem dX4_sell_17 : decode cX4_sell 17 = .ok (.getfield 29, 3) := by decide +kernel
theorem dX4_sell_20 : decode cX4_sell 20 = .ok (.invokevirtual 172, 3) := by decide +kernel
theorem dX4_sell_23 : decode cX4_sell 23 = .ok (.iconst (-1), 1) := by decide +kernel
theorem dX4_sell_24 : decode cX4_sell 24 = .ok (.istore_n 2, 1) := by decide +kernel
theorem dX4_sell_25 : decode cX4_sell 25 = .ok (.iconst (-1), 1) := by decide +kernel
theorem dX4_sell_26 : decode cX4_sell 26 = .ok (.istore_n 3, 1) := by decide +kernel
theorem dX4_sell_27 : decode cX4_sell 27 = .ok (.aload_n 0, 1) := by decide +kernel
theorem dX4_sell_28 : decode cX4_sell 28 = .ok (.getfield 29, 3) := by decide +kernel
theorem dX4_sell_31 : decode cX4_sell 31 = .ok (.getfield 150, 3) := by decide +kernel
theorem dX4_sell_34 : decode cX4_sell 34 = .ok (.istore 4, 2) := by decide +kernel
theorem dX4_sell_36 : decode cX4_sell 36 = .ok (.iload 4, 2) := by decide +kernel
theorem dX4_sell_38 : decode cX4_sell 38 = .ok (.bipush 24, 2) := by decide +kernel
theorem dX4_sell_40 : decode cX4_sell 40 = .ok (.if_icmp .gt 45, 3) := by decide +kernel
theorem dX4_sell_43 : decode cX4_sell 43 = .ok (.aload_n 0, 1) := by decide +kernel
theorem dX4_sell_44 : decode cX4_sell 44 = .ok (.getfield 33, 3) := by decide +kernel
theorem dX4_sell_47 : decode cX4_sell 47 = .ok (.aload_n 0, 1) := by decide +kernel
theorem dX4_sell_48 : decode cX4_sell 48 = .ok (.getfield 10, 3) := by decide +kernel
theorem dX4_sell_51 : decode cX4_sell 51 = .ok (.invokevirtual 191, 3) := by decide +kernel
theorem dX4_sell_54 : decode cX4_sell 54 = .ok (.istore 5, 2) := by decide +kernel
theorem dX4_sell_56 : decode cX4_sell 56 = .ok (.iload 5, 2) := by decide +kernel
theorem dX4_sell_58 : decode cX4_sell 58 = .ok (.iload_n 3, 1) := by decide +kernel
theorem dX4_sell_59 : decode cX4_sell 59 = .ok (.if_icmp .le 9, 3) := by decide +kernel
theorem dX4_sell_62 : decode cX4_sell 62 = .ok (.iload 5, 2) := by decide +kernel
theorem dX4_sell_64 : decode cX4_sell 64 = .ok (.istore_n 3, 1) := by decide +kernel
theorem dX4_sell_65 : decode cX4_sell 65 = .ok (.iload 4, 2) := by decide +kernel
theorem dX4_sell_67 : decode cX4_sell 67 = .ok (.istore_n 2, 1) := by decide +kernel
theorem dX4_sell_68 : decode cX4_sell 68 = .ok (.aload_n 0, 1) := by decide +kernel
theorem dX4_sell_69 : decode cX4_sell 69 = .ok (.getfield 33, 3) := by decide +kernel
theorem dX4_sell_72 : decode cX4_sell 72 = .ok (.aload_n 0, 1) := by decide +kernel
theorem dX4_sell_73 : decode cX4_sell 73 = .ok (.getfield 10, 3) := by decide +kernel
theorem dX4_sell_76 : decode cX4_sell 76 = .ok (.invokevirtual 166, 3) := by decide +kernel
theorem dX4_sell_79 : decode cX4_sell 79 = .ok (.iinc 4 1, 3) := by decide +kernel
theorem dX4_sell_82 : decode cX4_sell 82 = .ok (.goto (-46), 3) := by decide +kernel
theorem dX4_sell_85 : decode cX4_sell 85 = .ok (.iload_n 1, 1) := by decide +kernel
theorem dX4_sell_86 : decode cX4_sell 86 = .ok (.ifCond .ne 7, 3) := by decide +kernel
theorem dX4_sell_89 : decode cX4_sell 89 = .ok (.iload_n 2, 1) := by decide +kernel
theorem dX4_sell_90 : decode cX4_sell 90 = .ok (.goto 4, 3) := by decide +kernel
theorem dX4_sell_93 : decode cX4_sell 93 = .ok (.iload_n 3, 1) := by decide +kernel
theorem dX4_sell_94 : decode cX4_sell 94 = .ok (.ireturn, 1) := by decide +kernel
theorem dX4_thief_0 : decode cX4_thief 0 = .ok (.iload_n 1, 1) := by decide +kernel
theorem dX4_thief_1 : decode cX4_thief 1 = .ok (.ifCond .lt 8, 3) := by decide +kernel
theorem dX4_thief_4 : decode cX4_thief 4 = .ok (.iload_n 1, 1) := by decide +kernel
theorem dX4_thief_5 : decode cX4_thief 5 = .ok (.iconst 2, 1) := by decide +kernel
theorem dX4_thief_6 : decode cX4_thief 6 = .ok (.if_icmp .le 6, 3) := by decide +kernel
theorem dX4_thief_9 : decode cX4_thief 9 = .ok (.bipush (-3), 2) := by decide +kernel
theorem dX4_thief_11 : decode cX4_thief 11 = .ok (.ireturn, 1) := by decide +kernel
theorem dX4_thief_12 : decode cX4_thief 12 = .ok (.iconst 0, 1) := by decide +kernel
theorem dX4_thief_13 : decode cX4_thief 13 = .ok (.istore_n 2, 1) := by decide +kernel
theorem dX4_thief_14 : decode cX4_thief 14 = .ok (.iconst (-1), 1) := by decide +kernel
theorem dX4_thief_15 : decode cX4_thief 15 = .ok (.istore_n 3, 1) := by decide +kernel
theorem dX4_thief_16 : decode cX4_thief 16 = .ok (.iconst (-1), 1) := by decide +kernel
theorem dX4_thief_17 : decode cX4_thief 17 = .ok (.istore 4, 2) := by decide +kernel
theorem dX4_thief_19 : decode cX4_thief 19 = .ok (.iconst 0, 1) := by decide +kernel
theorem dX4_thief_20 : decode cX4_thief 20 = .ok (.istore 5, 2) := by decide +kernel
theorem dX4_thief_22 : decode cX4_thief 22 = .ok (.iload 5, 2) := by decide +kernel
theorem dX4_thief_24 : decode cX4_thief 24 = .ok (.aload_n 0, 1) := by decide +kernel
theorem dX4_thief_25 : decode cX4_thief 25 = .ok (.getfield 10, 3) := by decide +kernel
theorem dX4_thief_28 : decode cX4_thief 28 = .ok (.getfield 215, 3) := by decide +kernel
theorem dX4_thief_31 : decode cX4_thief 31 = .ok (.if_icmp .ge 52, 3) := by decide +kernel
theorem dX4_thief_34 : decode cX4_thief 34 = .ok (.iconst 0, 1) := by decide +kernel
theorem dX4_thief_35 : decode cX4_thief 35 = .ok (.istore 6, 2) := by decide +kernel
theorem dX4_thief_37 : decode cX4_thief 37 = .ok (.iload 6, 2) := by decide +kernel
theorem dX4_thief_39 : decode cX4_thief 39 = .ok (.iconst 3, 1) := by decide +kernel
theorem dX4_thief_40 : decode cX4_thief 40 = .ok (.if_icmp .ge 37, 3) := by decide +kernel
theorem dX4_thief_43 : decode cX4_thief 43 = .ok (.aload_n 0, 1) := by decide +kernel
theorem dX4_thief_44 : decode cX4_thief 44 = .ok (.iload 5, 2) := by decide +kernel
theorem dX4_thief_46 : decode cX4_thief 46 = .ok (.iload 6, 2) := by decide +kernel
theorem dX4_thief_48 : decode cX4_thief 48 = .ok (.invokevirtual 218, 3) := by decide +kernel
theorem dX4_thief_51 : decode cX4_thief 51 = .ok (.ifCond .ne 6, 3) := by decide +kernel
theorem dX4_thief_54 : decode cX4_thief 54 = .ok (.goto 17, 3) := by decide +kernel
theorem dX4_thief_57 : decode cX4_thief 57 = .ok (.iload_n 2, 1) := by decide +kernel
theorem dX4_thief_58 : decode cX4_thief 58 = .ok (.ifCond .ne 10, 3) := by decide +kernel
theorem dX4_thief_61 : decode cX4_thief 61 = .ok (.iload 5, 2) := by decide +kernel
theorem dX4_thief_63 : decode cX4_thief 63 = .ok (.istore_n 3, 1) := by decide +kernel
theorem dX4_thief_64 : decode cX4_thief 64 = .ok (.iload 6, 2) := by decide +kernel
theorem dX4_thief_66 : decode cX4_thief 66 = .ok (.istore 4, 2) := by decide +kernel
theorem dX4_thief_68 : decode cX4_thief 68 = .ok (.iinc 2 1, 3) := by decide +kernel
theorem dX4_thief_71 : decode cX4_thief 71 = .ok (.iinc 6 1, 3) := by decide +kernel
theorem dX4_thief_74 : decode cX4_thief 74 = .ok (.goto (-37), 3) := by decide +kernel
theorem dX4_thief_77 : decode cX4_thief 77 = .ok (.iinc 5 1, 3) := by decide +kernel
theorem dX4_thief_80 : decode cX4_thief 80 = .ok (.goto (-58), 3) := by decide +kernel
theorem dX4_thief_83 : decode cX4_thief 83 = .ok (.iload_n 1, 1) := by decide +kernel
theorem dX4_thief_84 : decode cX4_thief 84 = .ok (.lookupswitch 32 #[(0, 28), (1, 30)], 28) := by decide +kernel
theorem dX4_thief_112 : decode cX4_thief 112 = .ok (.iload_n 2, 1) := by decide +kernel
theorem dX4_thief_113 : decode cX4_thief 113 = .ok (.ireturn, 1) := by decide +kernel
theorem dX4_thief_114 : decode cX4_thief 114 = .ok (.iload_n 3, 1) := by decide +kernel
theorem dX4_thief_115 : decode cX4_thief 115 = .ok (.ireturn, 1) := by decide +kernel
theorem dX4_thief_116 : decode cX4_thief 116 = .ok (.iload 4, 2) := by decide +kernel
theorem dX4_thief_118 : decode cX4_thief 118 = .ok (.ireturn, 1) := by decide +kernel
theorem dX4_look_0 : decode cX4_look 0 = .ok (.aload_n 0, 1) := by decide +kernel
theorem dX4_look_1 : decode cX4_look 1 = .ok (.iload_n 1, 1) := by decide +kernel
theorem dX4_look_2 : decode cX4_look 2 = .ok (.invokevirtual 84, 3) := by decide +kernel
theorem dX4_look_5 : decode cX4_look 5 = .ok (.ifCond .ne 6, 3) := by decide +kernel
theorem dX4_look_8 : decode cX4_look 8 = .ok (.bipush (-2), 2) := by decide +kernel
theorem dX4_look_10 : decode cX4_look 10 = .ok (.ireturn, 1) := by decide +kernel
theorem dX4_look_11 : decode cX4_look 11 = .ok (.iload_n 2, 1) := by decide +kernel
theorem dX4_look_12 : decode cX4_look 12 = .ok (.ifCond .lt 23, 3) := by decide +kernel
theorem dX4_look_15 : decode cX4_look 15 = .ok (.iload_n 2, 1) := by decide +kernel
theorem dX4_look_16 : decode cX4_look 16 = .ok (.aload_n 0, 1) := by decide +kernel
theorem dX4_look_17 : decode cX4_look 17 = .ok (.getfield 29, 3) := by decide +kernel
theorem dX4_look_20 : decode cX4_look 20 = .ok (.getfield 150, 3) := by decide +kernel
theorem dX4_look_23 : decode cX4_look 23 = .ok (.if_icmp .ge 12, 3) := by decide +kernel
theorem dX4_look_26 : decode cX4_look 26 = .ok (.iload_n 3, 1) := by decide +kernel
theorem dX4_look_27 : decode cX4_look 27 = .ok (.ifCond .lt 8, 3) := by decide +kernel
theorem dX4_look_30 : decode cX4_look 30 = .ok (.iload_n 3, 1) := by decide +kernel
theorem dX4_look_31 : decode cX4_look 31 = .ok (.iconst 1, 1) := by decide +kernel
theorem dX4_look_32 : decode cX4_look 32 = .ok (.if_icmp .le 6, 3) := by decide +kernel
theorem dX4_look_35 : decode cX4_look 35 = .ok (.bipush (-3), 2) := by decide +kernel
theorem dX4_look_37 : decode cX4_look 37 = .ok (.ireturn, 1) := by decide +kernel
theorem dX4_look_38 : decode cX4_look 38 = .ok (.aload_n 0, 1) := by decide +kernel
theorem dX4_look_39 : decode cX4_look 39 = .ok (.getfield 221, 3) := by decide +kernel
theorem dX4_look_42 : decode cX4_look 42 = .ok (.bipush 6, 2) := by decide +kernel
theorem dX4_look_44 : decode cX4_look 44 = .ok (.if_icmp .lt 6, 3) := by decide +kernel
theorem dX4_look_47 : decode cX4_look 47 = .ok (.bipush (-5), 2) := by decide +kernel
theorem dX4_look_49 : decode cX4_look 49 = .ok (.ireturn, 1) := by decide +kernel
theorem dX4_look_50 : decode cX4_look 50 = .ok (.aload_n 0, 1) := by decide +kernel
theorem dX4_look_51 : decode cX4_look 51 = .ok (.getfield 54, 3) := by decide +kernel
theorem dX4_look_54 : decode cX4_look 54 = .ok (.aload_n 0, 1) := by decide +kernel
theorem dX4_look_55 : decode cX4_look 55 = .ok (.getfield 221, 3) := by decide +kernel
theorem dX4_look_58 : decode cX4_look 58 = .ok (.iload_n 1, 1) := by decide +kernel
theorem dX4_look_59 : decode cX4_look 59 = .ok (.iastore, 1) := by decide +kernel
theorem dX4_look_60 : decode cX4_look 60 = .ok (.aload_n 0, 1) := by decide +kernel
theorem dX4_look_61 : decode cX4_look 61 = .ok (.getfield 57, 3) := by decide +kernel
theorem dX4_look_64 : decode cX4_look 64 = .ok (.aload_n 0, 1) := by decide +kernel
theorem dX4_look_65 : decode cX4_look 65 = .ok (.getfield 221, 3) := by decide +kernel
theorem dX4_look_68 : decode cX4_look 68 = .ok (.iload_n 2, 1) := by decide +kernel
theorem dX4_look_69 : decode cX4_look 69 = .ok (.iastore, 1) := by decide +kernel
theorem dX4_look_70 : decode cX4_look 70 = .ok (.aload_n 0, 1) := by decide +kernel
theorem dX4_look_71 : decode cX4_look 71 = .ok (.getfield 60, 3) := by decide +kernel
theorem dX4_look_74 : decode cX4_look 74 = .ok (.aload_n 0, 1) := by decide +kernel
theorem dX4_look_75 : decode cX4_look 75 = .ok (.getfield 221, 3) := by decide +kernel
theorem dX4_look_78 : decode cX4_look 78 = .ok (.iload_n 3, 1) := by decide +kernel
theorem dX4_look_79 : decode cX4_look 79 = .ok (.iastore, 1) := by decide +kernel
theorem dX4_look_80 : decode cX4_look 80 = .ok (.aload_n 0, 1) := by decide +kernel
theorem dX4_look_81 : decode cX4_look 81 = .ok (.dup, 1) := by decide +kernel
theorem dX4_look_82 : decode cX4_look 82 = .ok (.getfield 221, 3) := by decide +kernel
theorem dX4_look_85 : decode cX4_look 85 = .ok (.iconst 1, 1) := by decide +kernel
theorem dX4_look_86 : decode cX4_look 86 = .ok (.iadd, 1) := by decide +kernel
theorem dX4_look_87 : decode cX4_look 87 = .ok (.putfield 221, 3) := by decide +kernel
theorem dX4_look_90 : decode cX4_look 90 = .ok (.aload_n 0, 1) := by decide +kernel
theorem dX4_look_91 : decode cX4_look 91 = .ok (.getfield 221, 3) := by decide +kernel
theorem dX4_look_94 : decode cX4_look 94 = .ok (.ireturn, 1) := by decide +kernel
theorem dX4_forget_0 : decode cX4_forget 0 = .ok (.aload_n 0, 1) := by decide +kernel
theorem dX4_forget_1 : decode cX4_forget 1 = .ok (.getfield 221, 3) := by decide +kernel
theorem dX4_forget_4 : decode cX4_forget 4 = .ok (.istore_n 1, 1) := by decide +kernel
theorem dX4_forget_5 : decode cX4_forget 5 = .ok (.aload_n 0, 1) := by decide +kernel
theorem dX4_forget_6 : decode cX4_forget 6 = .ok (.iconst 0, 1) := by decide +kernel
theorem dX4_forget_7 : decode cX4_forget 7 = .ok (.putfield 221, 3) := by decide +kernel
theorem dX4_forget_10 : decode cX4_forget 10 = .ok (.iload_n 1, 1) := by decide +kernel
theorem dX4_forget_11 : decode cX4_forget 11 = .ok (.ireturn, 1) := by decide +kernel
theorem dX4_fit_0 : decode cX4_fit 0 = .ok (.aload_n 0, 1) := by decide +kernel
theorem dX4_fit_1 : decode cX4_fit 1 = .ok (.iload_n 1, 1) := by decide +kernel
theorem dX4_fit_2 : decode cX4_fit 2 = .ok (.invokevirtual 84, 3) := by decide +kernel
theorem dX4_fit_5 : decode cX4_fit 5 = .ok (.ifCond .ne 6, 3) := by decide +kernel
theorem dX4_fit_8 : decode cX4_fit 8 = .ok (.bipush (-2), 2) := by decide +kernel
theorem dX4_fit_10 : decode cX4_fit 10 = .ok (.ireturn, 1) := by decide +kernel
theorem dX4_fit_11 : decode cX4_fit 11 = .ok (.iconst 0, 1) := by decide +kernel
theorem dX4_fit_12 : decode cX4_fit 12 = .ok (.istore_n 2, 1) := by decide +kernel
theorem dX4_fit_13 : decode cX4_fit 13 = .ok (.iconst 0, 1) := by decide +kernel
theorem dX4_fit_14 : decode cX4_fit 14 = .ok (.istore_n 3, 1) := by decide +kernel
theorem dX4_fit_15 : decode cX4_fit 15 = .ok (.iload_n 3, 1) := by decide +kernel
theorem dX4_fit_16 : decode cX4_fit 16 = .ok (.aload_n 0, 1) := by decide +kernel
theorem dX4_fit_17 : decode cX4_fit 17 = .ok (.getfield 29, 3) := by decide +kernel
theorem dX4_fit_20 : decode cX4_fit 20 = .ok (.getfield 150, 3) := by decide +kernel
theorem dX4_fit_23 : decode cX4_fit 23 = .ok (.if_icmp .ge 29, 3) := by decide +kernel
theorem dX4_fit_26 : decode cX4_fit 26 = .ok (.aload_n 0, 1) := by decide +kernel
theorem dX4_fit_27 : decode cX4_fit 27 = .ok (.iload_n 1, 1) := by decide +kernel
theorem dX4_fit_28 : decode cX4_fit 28 = .ok (.iload_n 3, 1) := by decide +kernel
theorem dX4_fit_29 : decode cX4_fit 29 = .ok (.aload_n 0, 1) := by decide +kernel
theorem dX4_fit_30 : decode cX4_fit 30 = .ok (.iload_n 3, 1) := by decide +kernel
theorem dX4_fit_31 : decode cX4_fit 31 = .ok (.invokevirtual 224, 3) := by decide +kernel
theorem dX4_fit_34 : decode cX4_fit 34 = .ok (.invokevirtual 227, 3) := by decide +kernel
theorem dX4_fit_37 : decode cX4_fit 37 = .ok (.ifCond .eq 9, 3) := by decide +kernel
theorem dX4_fit_40 : decode cX4_fit 40 = .ok (.iload_n 2, 1) := by decide +kernel
theorem dX4_fit_41 : decode cX4_fit 41 = .ok (.iconst 1, 1) := by decide +kernel
theorem dX4_fit_42 : decode cX4_fit 42 = .ok (.iload_n 3, 1) := by decide +kernel
theorem dX4_fit_43 : decode cX4_fit 43 = .ok (.ishl, 1) := by decide +kernel
theorem dX4_fit_44 : decode cX4_fit 44 = .ok (.ior, 1) := by decide +kernel
theorem dX4_fit_45 : decode cX4_fit 45 = .ok (.istore_n 2, 1) := by decide +kernel
theorem dX4_fit_46 : decode cX4_fit 46 = .ok (.iinc 3 1, 3) := by decide +kernel
theorem dX4_fit_49 : decode cX4_fit 49 = .ok (.goto (-34), 3) := by decide +kernel
theorem dX4_fit_52 : decode cX4_fit 52 = .ok (.aload_n 0, 1) := by decide +kernel
theorem dX4_fit_53 : decode cX4_fit 53 = .ok (.iload_n 1, 1) := by decide +kernel
theorem dX4_fit_54 : decode cX4_fit 54 = .ok (.iconst 0, 1) := by decide +kernel
theorem dX4_fit_55 : decode cX4_fit 55 = .ok (.iconst 0, 1) := by decide +kernel
theorem dX4_fit_56 : decode cX4_fit 56 = .ok (.invokevirtual 227, 3) := by decide +kernel
theorem dX4_fit_59 : decode cX4_fit 59 = .ok (.ifCond .eq 8, 3) := by decide +kernel
theorem dX4_fit_62 : decode cX4_fit 62 = .ok (.iload_n 2, 1) := by decide +kernel
theorem dX4_fit_63 : decode cX4_fit 63 = .ok (.ldc 231, 2) := by decide +kernel
theorem dX4_fit_65 : decode cX4_fit 65 = .ok (.ior, 1) := by decide +kernel
theorem dX4_fit_66 : decode cX4_fit 66 = .ok (.istore_n 2, 1) := by decide +kernel
theorem dX4_fit_67 : decode cX4_fit 67 = .ok (.iload_n 2, 1) := by decide +kernel
theorem dX4_fit_68 : decode cX4_fit 68 = .ok (.ireturn, 1) := by decide +kernel
theorem dX4_baths_0 : decode cX4_baths 0 = .ok (.iload_n 1, 1) := by decide +kernel
theorem dX4_baths_1 : decode cX4_baths 1 = .ok (.ifCond .lt 19, 3) := by decide +kernel
theorem dX4_baths_4 : decode cX4_baths 4 = .ok (.iload_n 1, 1) := by decide +kernel
theorem dX4_baths_5 : decode cX4_baths 5 = .ok (.sipush 4096, 3) := by decide +kernel
theorem dX4_baths_8 : decode cX4_baths 8 = .ok (.if_icmp .ge 12, 3) := by decide +kernel
theorem dX4_baths_11 : decode cX4_baths 11 = .ok (.iload_n 2, 1) := by decide +kernel
theorem dX4_baths_12 : decode cX4_baths 12 = .ok (.ifCond .lt 8, 3) := by decide +kernel
theorem dX4_baths_15 : decode cX4_baths 15 = .ok (.iload_n 2, 1) := by decide +kernel
theorem dX4_baths_16 : decode cX4_baths 16 = .ok (.iconst 1, 1) := by decide +kernel
theorem dX4_baths_17 : decode cX4_baths 17 = .ok (.if_icmp .le 6, 3) := by decide +kernel
theorem dX4_baths_20 : decode cX4_baths 20 = .ok (.bipush (-3), 2) := by decide +kernel
theorem dX4_baths_22 : decode cX4_baths 22 = .ok (.ireturn, 1) := by decide +kernel
theorem dX4_baths_23 : decode cX4_baths 23 = .ok (.iload_n 1, 1) := by decide +kernel
theorem dX4_baths_24 : decode cX4_baths 24 = .ok (.aload_n 0, 1) := by decide +kernel
theorem dX4_baths_25 : decode cX4_baths 25 = .ok (.invokevirtual 232, 3) := by decide +kernel
theorem dX4_baths_28 : decode cX4_baths 28 = .ok (.iconst (-1), 1) := by decide +kernel
theorem dX4_baths_29 : decode cX4_baths 29 = .ok (.ixor, 1) := by decide +kernel
theorem dX4_baths_30 : decode cX4_baths 30 = .ok (.iand, 1) := by decide +kernel
theorem dX4_baths_31 : decode cX4_baths 31 = .ok (.istore_n 3, 1) := by decide +kernel
theorem dX4_baths_32 : decode cX4_baths 32 = .ok (.iconst (-1), 1) := by decide +kernel
theorem dX4_baths_33 : decode cX4_baths 33 = .ok (.istore 4, 2) := by decide +kernel
theorem dX4_baths_35 : decode cX4_baths 35 = .ok (.iconst (-1), 1) := by decide +kernel
theorem dX4_baths_36 : decode cX4_baths 36 = .ok (.istore 5, 2) := by decide +kernel
theorem dX4_baths_38 : decode cX4_baths 38 = .ok (.iconst 0, 1) := by decide +kernel
theorem dX4_baths_39 : decode cX4_baths 39 = .ok (.istore 6, 2) := by decide +kernel
theorem dX4_baths_41 : decode cX4_baths 41 = .ok (.iload 6, 2) := by decide +kernel
theorem dX4_baths_43 : decode cX4_baths 43 = .ok (.sipush 4096, 3) := by decide +kernel
theorem dX4_baths_46 : decode cX4_baths 46 = .ok (.if_icmp .ge 60, 3) := by decide +kernel
theorem dX4_baths_49 : decode cX4_baths 49 = .ok (.iload 6, 2) := by decide +kernel
theorem dX4_baths_51 : decode cX4_baths 51 = .ok (.invokestatic 197, 3) := by decide +kernel
theorem dX4_baths_54 : decode cX4_baths 54 = .ok (.istore 7, 2) := by decide +kernel
theorem dX4_baths_56 : decode cX4_baths 56 = .ok (.iload 6, 2) := by decide +kernel
theorem dX4_baths_58 : decode cX4_baths 58 = .ok (.iload_n 1, 1) := by decide +kernel
theorem dX4_baths_59 : decode cX4_baths 59 = .ok (.iand, 1) := by decide +kernel
theorem dX4_baths_60 : decode cX4_baths 60 = .ok (.ifCond .ne 40, 3) := by decide +kernel
theorem dX4_baths_63 : decode cX4_baths 63 = .ok (.iload 4, 2) := by decide +kernel
theorem dX4_baths_65 : decode cX4_baths 65 = .ok (.iconst (-1), 1) := by decide +kernel
theorem dX4_baths_66 : decode cX4_baths 66 = .ok (.if_icmp .eq 13, 3) := by decide +kernel
theorem dX4_baths_69 : decode cX4_baths 69 = .ok (.iload 7, 2) := by decide +kernel
theorem dX4_baths_71 : decode cX4_baths 71 = .ok (.iload 4, 2) := by decide +kernel
theorem dX4_baths_73 : decode cX4_baths 73 = .ok (.if_icmp .lt 6, 3) := by decide +kernel
theorem dX4_baths_76 : decode cX4_baths 76 = .ok (.goto 24, 3) := by decide +kernel
theorem dX4_baths_79 : decode cX4_baths 79 = .ok (.iload_n 3, 1) := by decide +kernel
theorem dX4_baths_80 : decode cX4_baths 80 = .ok (.aload_n 0, 1) := by decide +kernel
theorem dX4_baths_81 : decode cX4_baths 81 = .ok (.iload 6, 2) := by decide +kernel
theorem dX4_baths_83 : decode cX4_baths 83 = .ok (.invokevirtual 235, 3) := by decide +kernel
theorem dX4_baths_86 : decode cX4_baths 86 = .ok (.iconst (-1), 1) := by decide +kernel
theorem dX4_baths_87 : decode cX4_baths 87 = .ok (.ixor, 1) := by decide +kernel
theorem dX4_baths_88 : decode cX4_baths 88 = .ok (.iand, 1) := by decide +kernel
theorem dX4_baths_89 : decode cX4_baths 89 = .ok (.ifCond .ne 11, 3) := by decide +kernel
theorem dX4_baths_92 : decode cX4_baths 92 = .ok (.iload 7, 2) := by decide +kernel
theorem dX4_baths_94 : decode cX4_baths 94 = .ok (.istore 4, 2) := by decide +kernel
theorem dX4_baths_96 : decode cX4_baths 96 = .ok (.iload 6, 2) := by decide +kernel
theorem dX4_baths_98 : decode cX4_baths 98 = .ok (.istore 5, 2) := by decide +kernel
theorem dX4_baths_100 : decode cX4_baths 100 = .ok (.iinc 6 1, 3) := by decide +kernel
theorem dX4_baths_103 : decode cX4_baths 103 = .ok (.goto (-62), 3) := by decide +kernel
theorem dX4_baths_106 : decode cX4_baths 106 = .ok (.iload_n 2, 1) := by decide +kernel
theorem dX4_baths_107 : decode cX4_baths 107 = .ok (.ifCond .ne 8, 3) := by decide +kernel
theorem dX4_baths_110 : decode cX4_baths 110 = .ok (.iload 4, 2) := by decide +kernel
theorem dX4_baths_112 : decode cX4_baths 112 = .ok (.goto 5, 3) := by decide +kernel
theorem dX4_baths_115 : decode cX4_baths 115 = .ok (.iload 5, 2) := by decide +kernel
theorem dX4_baths_117 : decode cX4_baths 117 = .ok (.ireturn, 1) := by decide +kernel
theorem dX4_slips_0 : decode cX4_slips 0 = .ok (.iload_n 1, 1) := by decide +kernel
theorem dX4_slips_1 : decode cX4_slips 1 = .ok (.ifCond .lt 19, 3) := by decide +kernel
theorem dX4_slips_4 : decode cX4_slips 4 = .ok (.iload_n 1, 1) := by decide +kernel
theorem dX4_slips_5 : decode cX4_slips 5 = .ok (.bipush 10, 2) := by decide +kernel
theorem dX4_slips_7 : decode cX4_slips 7 = .ok (.if_icmp .gt 13, 3) := by decide +kernel
theorem dX4_slips_10 : decode cX4_slips 10 = .ok (.iload_n 2, 1) := by decide +kernel
theorem dX4_slips_11 : decode cX4_slips 11 = .ok (.ifCond .lt 9, 3) := by decide +kernel
theorem dX4_slips_14 : decode cX4_slips 14 = .ok (.iload_n 2, 1) := by decide +kernel
theorem dX4_slips_15 : decode cX4_slips 15 = .ok (.bipush 6, 2) := by decide +kernel
theorem dX4_slips_17 : decode cX4_slips 17 = .ok (.if_icmp .le 7, 3) := by decide +kernel
theorem dX4_slips_20 : decode cX4_slips 20 = .ok (.ldc2_w 238, 3) := by decide +kernel
theorem dX4_slips_23 : decode cX4_slips 23 = .ok (.lreturn, 1) := by decide +kernel
theorem dX4_slips_24 : decode cX4_slips 24 = .ok (.iload_n 3, 1) := by decide +kernel
theorem dX4_slips_25 : decode cX4_slips 25 = .ok (.ifCond .lt 20, 3) := by decide +kernel
theorem dX4_slips_28 : decode cX4_slips 28 = .ok (.iload_n 3, 1) := by decide +kernel
theorem dX4_slips_29 : decode cX4_slips 29 = .ok (.bipush 6, 2) := by decide +kernel
theorem dX4_slips_31 : decode cX4_slips 31 = .ok (.if_icmp .gt 14, 3) := by decide +kernel
theorem dX4_slips_34 : decode cX4_slips 34 = .ok (.iload 4, 2) := by decide +kernel
theorem dX4_slips_36 : decode cX4_slips 36 = .ok (.ifCond .lt 9, 3) := by decide +kernel
theorem dX4_slips_39 : decode cX4_slips 39 = .ok (.iload 4, 2) := by decide +kernel
theorem dX4_slips_41 : decode cX4_slips 41 = .ok (.iconst 1, 1) := by decide +kernel
theorem dX4_slips_42 : decode cX4_slips 42 = .ok (.if_icmp .le 7, 3) := by decide +kernel
theorem dX4_slips_45 : decode cX4_slips 45 = .ok (.ldc2_w 238, 3) := by decide +kernel
theorem dX4_slips_48 : decode cX4_slips 48 = .ok (.lreturn, 1) := by decide +kernel
theorem dX4_slips_49 : decode cX4_slips 49 = .ok (.lconst 0, 1) := by decide +kernel
theorem dX4_slips_50 : decode cX4_slips 50 = .ok (.lstore 5, 2) := by decide +kernel
theorem dX4_slips_52 : decode cX4_slips 52 = .ok (.lconst 1, 1) := by decide +kernel
theorem dX4_slips_53 : decode cX4_slips 53 = .ok (.lstore 7, 2) := by decide +kernel
theorem dX4_slips_55 : decode cX4_slips 55 = .ok (.iconst 0, 1) := by decide +kernel
theorem dX4_slips_56 : decode cX4_slips 56 = .ok (.istore 9, 2) := by decide +kernel
theorem dX4_slips_58 : decode cX4_slips 58 = .ok (.iload 9, 2) := by decide +kernel
theorem dX4_slips_60 : decode cX4_slips 60 = .ok (.iload_n 2, 1) := by decide +kernel
theorem dX4_slips_61 : decode cX4_slips 61 = .ok (.if_icmp .gt 57, 3) := by decide +kernel
theorem dX4_slips_64 : decode cX4_slips 64 = .ok (.iload 9, 2) := by decide +kernel
theorem dX4_slips_66 : decode cX4_slips 66 = .ok (.iload_n 3, 1) := by decide +kernel
theorem dX4_slips_67 : decode cX4_slips 67 = .ok (.if_icmp .gt 51, 3) := by decide +kernel
theorem dX4_slips_70 : decode cX4_slips 70 = .ok (.lload 5, 2) := by decide +kernel
theorem dX4_slips_72 : decode cX4_slips 72 = .ok (.lload 7, 2) := by decide +kernel
theorem dX4_slips_74 : decode cX4_slips 74 = .ok (.iload_n 1, 1) := by decide +kernel
theorem dX4_slips_75 : decode cX4_slips 75 = .ok (.iload 9, 2) := by decide +kernel
end
section
theorem dX4_slips_77 : decode cX4_slips 77 = .ok (.invokestatic 240, 3) := by decide +kernel
theorem dX4_slips_80 : decode cX4_slips 80 = .ok (.lmul, 1) := by decide +kernel
theorem dX4_slips_81 : decode cX4_slips 81 = .ok (.bipush 10, 2) := by decide +kernel
theorem dX4_slips_83 : decode cX4_slips 83 = .ok (.iload_n 1, 1) := by decide +kernel
theorem dX4_slips_84 : decode cX4_slips 84 = .ok (.isub, 1) := by decide +kernel
theorem dX4_slips_85 : decode cX4_slips 85 = .ok (.iload_n 2, 1) := by decide +kernel
theorem dX4_slips_86 : decode cX4_slips 86 = .ok (.iload 9, 2) := by decide +kernel
theorem dX4_slips_88 : decode cX4_slips 88 = .ok (.isub, 1) := by decide +kernel
theorem dX4_slips_89 : decode cX4_slips 89 = .ok (.invokestatic 240, 3) := by decide +kernel
theorem dX4_slips_92 : decode cX4_slips 92 = .ok (.lmul, 1) := by decide +kernel
theorem dX4_slips_93 : decode cX4_slips 93 = .ok (.ladd, 1) := by decide +kernel
theorem dX4_slips_94 : decode cX4_slips 94 = .ok (.lstore 5, 2) := by decide +kernel
theorem dX4_slips_96 : decode cX4_slips 96 = .ok (.lload 7, 2) := by decide +kernel
theorem dX4_slips_98 : decode cX4_slips 98 = .ok (.iload_n 2, 1) := by decide +kernel
theorem dX4_slips_99 : decode cX4_slips 99 = .ok (.iload 9, 2) := by decide +kernel
theorem dX4_slips_101 : decode cX4_slips 101 = .ok (.isub, 1) := by decide +kernel
theorem dX4_slips_102 : decode cX4_slips 102 = .ok (.i2l, 1) := by decide +kernel
theorem dX4_slips_103 : decode cX4_slips 103 = .ok (.lmul, 1) := by decide +kernel
theorem dX4_slips_104 : decode cX4_slips 104 = .ok (.iload 9, 2) := by decide +kernel
theorem dX4_slips_106 : decode cX4_slips 106 = .ok (.iconst 1, 1) := by decide +kernel
theorem dX4_slips_107 : decode cX4_slips 107 = .ok (.iadd, 1) := by decide +kernel
theorem dX4_slips_108 : decode cX4_slips 108 = .ok (.i2l, 1) := by decide +kernel
theorem dX4_slips_109 : decode cX4_slips 109 = .ok (.ldiv, 1) := by decide +kernel
theorem dX4_slips_110 : decode cX4_slips 110 = .ok (.lstore 7, 2) := by decide +kernel
theorem dX4_slips_112 : decode cX4_slips 112 = .ok (.iinc 9 1, 3) := by decide +kernel
theorem dX4_slips_115 : decode cX4_slips 115 = .ok (.goto (-57), 3) := by decide +kernel
theorem dX4_slips_118 : decode cX4_slips 118 = .ok (.bipush 10, 2) := by decide +kernel
theorem dX4_slips_120 : decode cX4_slips 120 = .ok (.iload_n 2, 1) := by decide +kernel
theorem dX4_slips_121 : decode cX4_slips 121 = .ok (.invokestatic 240, 3) := by decide +kernel
theorem dX4_slips_124 : decode cX4_slips 124 = .ok (.lstore 9, 2) := by decide +kernel
theorem dX4_slips_126 : decode cX4_slips 126 = .ok (.lload 5, 2) := by decide +kernel
theorem dX4_slips_128 : decode cX4_slips 128 = .ok (.lload 9, 2) := by decide +kernel
theorem dX4_slips_130 : decode cX4_slips 130 = .ok (.invokestatic 244, 3) := by decide +kernel
theorem dX4_slips_133 : decode cX4_slips 133 = .ok (.lstore 11, 2) := by decide +kernel
theorem dX4_slips_135 : decode cX4_slips 135 = .ok (.iload 4, 2) := by decide +kernel
theorem dX4_slips_137 : decode cX4_slips 137 = .ok (.ifCond .ne 8, 3) := by decide +kernel
theorem dX4_slips_140 : decode cX4_slips 140 = .ok (.lload 5, 2) := by decide +kernel
theorem dX4_slips_142 : decode cX4_slips 142 = .ok (.goto 5, 3) := by decide +kernel
theorem dX4_slips_145 : decode cX4_slips 145 = .ok (.lload 9, 2) := by decide +kernel
theorem dX4_slips_147 : decode cX4_slips 147 = .ok (.lstore 13, 2) := by decide +kernel
theorem dX4_slips_149 : decode cX4_slips 149 = .ok (.lload 11, 2) := by decide +kernel
theorem dX4_slips_151 : decode cX4_slips 151 = .ok (.lconst 0, 1) := by decide +kernel
theorem dX4_slips_152 : decode cX4_slips 152 = .ok (.lcmp, 1) := by decide +kernel
theorem dX4_slips_153 : decode cX4_slips 153 = .ok (.ifCond .le 11, 3) := by decide +kernel
theorem dX4_slips_156 : decode cX4_slips 156 = .ok (.lload 13, 2) := by decide +kernel
theorem dX4_slips_158 : decode cX4_slips 158 = .ok (.lload 11, 2) := by decide +kernel
theorem dX4_slips_160 : decode cX4_slips 160 = .ok (.ldiv, 1) := by decide +kernel
theorem dX4_slips_161 : decode cX4_slips 161 = .ok (.goto 5, 3) := by decide +kernel
theorem dX4_slips_164 : decode cX4_slips 164 = .ok (.lload 13, 2) := by decide +kernel
theorem dX4_slips_166 : decode cX4_slips 166 = .ok (.lreturn, 1) := by decide +kernel
theorem dX4_count_0 : decode cX4_count 0 = .ok (.iload_n 1, 1) := by decide +kernel
theorem dX4_count_1 : decode cX4_count 1 = .ok (.tableswitch 170 0 12 #[67, 75, 83, 91, 99, 107, 123, 131, 139, 144, 152, 157, 162], 67) := by decide +kernel
theorem dX4_count_68 : decode cX4_count 68 = .ok (.aload_n 0, 1) := by decide +kernel
theorem dX4_count_69 : decode cX4_count 69 = .ok (.getfield 10, 3) := by decide +kernel
theorem dX4_count_72 : decode cX4_count 72 = .ok (.getfield 215, 3) := by decide +kernel
theorem dX4_count_75 : decode cX4_count 75 = .ok (.ireturn, 1) := by decide +kernel
theorem dX4_count_76 : decode cX4_count 76 = .ok (.aload_n 0, 1) := by decide +kernel
theorem dX4_count_77 : decode cX4_count 77 = .ok (.getfield 10, 3) := by decide +kernel
theorem dX4_count_80 : decode cX4_count 80 = .ok (.getfield 248, 3) := by decide +kernel
theorem dX4_count_83 : decode cX4_count 83 = .ok (.ireturn, 1) := by decide +kernel
theorem dX4_count_84 : decode cX4_count 84 = .ok (.aload_n 0, 1) := by decide +kernel
theorem dX4_count_85 : decode cX4_count 85 = .ok (.getfield 10, 3) := by decide +kernel
theorem dX4_count_88 : decode cX4_count 88 = .ok (.getfield 251, 3) := by decide +kernel
theorem dX4_count_91 : decode cX4_count 91 = .ok (.ireturn, 1) := by decide +kernel
theorem dX4_count_92 : decode cX4_count 92 = .ok (.aload_n 0, 1) := by decide +kernel
theorem dX4_count_93 : decode cX4_count 93 = .ok (.getfield 10, 3) := by decide +kernel
theorem dX4_count_96 : decode cX4_count 96 = .ok (.getfield 254, 3) := by decide +kernel
theorem dX4_count_99 : decode cX4_count 99 = .ok (.ireturn, 1) := by decide +kernel
theorem dX4_count_100 : decode cX4_count 100 = .ok (.aload_n 0, 1) := by decide +kernel
theorem dX4_count_101 : decode cX4_count 101 = .ok (.getfield 29, 3) := by decide +kernel
theorem dX4_count_104 : decode cX4_count 104 = .ok (.getfield 150, 3) := by decide +kernel
theorem dX4_count_107 : decode cX4_count 107 = .ok (.ireturn, 1) := by decide +kernel
theorem dX4_count_108 : decode cX4_count 108 = .ok (.aload_n 0, 1) := by decide +kernel
theorem dX4_count_109 : decode cX4_count 109 = .ok (.getfield 29, 3) := by decide +kernel
theorem dX4_count_112 : decode cX4_count 112 = .ok (.getfield 182, 3) := by decide +kernel
theorem dX4_count_115 : decode cX4_count 115 = .ok (.aload_n 0, 1) := by decide +kernel
theorem dX4_count_116 : decode cX4_count 116 = .ok (.getfield 29, 3) := by decide +kernel
theorem dX4_count_119 : decode cX4_count 119 = .ok (.getfield 257, 3) := by decide +kernel
theorem dX4_count_122 : decode cX4_count 122 = .ok (.ior, 1) := by decide +kernel
theorem dX4_count_123 : decode cX4_count 123 = .ok (.ireturn, 1) := by decide +kernel
theorem dX4_count_124 : decode cX4_count 124 = .ok (.aload_n 0, 1) := by decide +kernel
theorem dX4_count_125 : decode cX4_count 125 = .ok (.getfield 29, 3) := by decide +kernel
theorem dX4_count_128 : decode cX4_count 128 = .ok (.getfield 104, 3) := by decide +kernel
theorem dX4_count_131 : decode cX4_count 131 = .ok (.ireturn, 1) := by decide +kernel
theorem dX4_count_132 : decode cX4_count 132 = .ok (.aload_n 0, 1) := by decide +kernel
theorem dX4_count_133 : decode cX4_count 133 = .ok (.getfield 29, 3) := by decide +kernel
theorem dX4_count_136 : decode cX4_count 136 = .ok (.getfield 130, 3) := by decide +kernel
theorem dX4_count_139 : decode cX4_count 139 = .ok (.ireturn, 1) := by decide +kernel
theorem dX4_count_140 : decode cX4_count 140 = .ok (.aload_n 0, 1) := by decide +kernel
theorem dX4_count_141 : decode cX4_count 141 = .ok (.getfield 194, 3) := by decide +kernel
theorem dX4_count_144 : decode cX4_count 144 = .ok (.ireturn, 1) := by decide +kernel
theorem dX4_count_145 : decode cX4_count 145 = .ok (.aload_n 0, 1) := by decide +kernel
theorem dX4_count_146 : decode cX4_count 146 = .ok (.getfield 133, 3) := by decide +kernel
theorem dX4_count_149 : decode cX4_count 149 = .ok (.invokestatic 197, 3) := by decide +kernel
theorem dX4_count_152 : decode cX4_count 152 = .ok (.ireturn, 1) := by decide +kernel
theorem dX4_count_153 : decode cX4_count 153 = .ok (.aload_n 0, 1) := by decide +kernel
theorem dX4_count_154 : decode cX4_count 154 = .ok (.getfield 221, 3) := by decide +kernel
theorem dX4_count_157 : decode cX4_count 157 = .ok (.ireturn, 1) := by decide +kernel
theorem dX4_count_158 : decode cX4_count 158 = .ok (.aload_n 0, 1) := by decide +kernel
theorem dX4_count_159 : decode cX4_count 159 = .ok (.getfield 169, 3) := by decide +kernel
theorem dX4_count_162 : decode cX4_count 162 = .ok (.ireturn, 1) := by decide +kernel
theorem dX4_count_163 : decode cX4_count 163 = .ok (.aload_n 0, 1) := by decide +kernel
theorem dX4_count_164 : decode cX4_count 164 = .ok (.getfield 22, 3) := by decide +kernel
theorem dX4_count_167 : decode cX4_count 167 = .ok (.getfield 63, 3) := by decide +kernel
theorem dX4_count_170 : decode cX4_count 170 = .ok (.ireturn, 1) := by decide +kernel
theorem dX4_count_171 : decode cX4_count 171 = .ok (.bipush (-3), 2) := by decide +kernel
theorem dX4_count_173 : decode cX4_count 173 = .ok (.ireturn, 1) := by decide +kernel
theorem dX4_hasBit_0 : decode cX4_hasBit 0 = .ok (.iload_n 0, 1) := by decide +kernel
theorem dX4_hasBit_1 : decode cX4_hasBit 1 = .ok (.iload_n 1, 1) := by decide +kernel
theorem dX4_hasBit_2 : decode cX4_hasBit 2 = .ok (.ishr, 1) := by decide +kernel
theorem dX4_hasBit_3 : decode cX4_hasBit 3 = .ok (.iconst 1, 1) := by decide +kernel
theorem dX4_hasBit_4 : decode cX4_hasBit 4 = .ok (.iand, 1) := by decide +kernel
theorem dX4_hasBit_5 : decode cX4_hasBit 5 = .ok (.ifCond .eq 7, 3) := by decide +kernel
theorem dX4_hasBit_8 : decode cX4_hasBit 8 = .ok (.iconst 1, 1) := by decide +kernel
theorem dX4_hasBit_9 : decode cX4_hasBit 9 = .ok (.goto 4, 3) := by decide +kernel
theorem dX4_hasBit_12 : decode cX4_hasBit 12 = .ok (.iconst 0, 1) := by decide +kernel
theorem dX4_hasBit_13 : decode cX4_hasBit 13 = .ok (.ireturn, 1) := by decide +kernel
theorem dX4_isThing_0 : decode cX4_isThing 0 = .ok (.iload_n 1, 1) := by decide +kernel
theorem dX4_isThing_1 : decode cX4_isThing 1 = .ok (.ifCond .lt 18, 3) := by decide +kernel
theorem dX4_isThing_4 : decode cX4_isThing 4 = .ok (.iload_n 1, 1) := by decide +kernel
theorem dX4_isThing_5 : decode cX4_isThing 5 = .ok (.aload_n 0, 1) := by decide +kernel
theorem dX4_isThing_6 : decode cX4_isThing 6 = .ok (.getfield 10, 3) := by decide +kernel
theorem dX4_isThing_9 : decode cX4_isThing 9 = .ok (.getfield 215, 3) := by decide +kernel
theorem dX4_isThing_12 : decode cX4_isThing 12 = .ok (.if_icmp .ge 7, 3) := by decide +kernel
theorem dX4_isThing_15 : decode cX4_isThing 15 = .ok (.iconst 1, 1) := by decide +kernel
theorem dX4_isThing_16 : decode cX4_isThing 16 = .ok (.goto 4, 3) := by decide +kernel
theorem dX4_isThing_19 : decode cX4_isThing 19 = .ok (.iconst 0, 1) := by decide +kernel
theorem dX4_isThing_20 : decode cX4_isThing 20 = .ok (.ireturn, 1) := by decide +kernel
theorem dX4_isUnder_0 : decode cX4_isUnder 0 = .ok (.iload_n 0, 1) := by decide +kernel
theorem dX4_isUnder_1 : decode cX4_isUnder 1 = .ok (.istore_n 2, 1) := by decide +kernel
theorem dX4_isUnder_2 : decode cX4_isUnder 2 = .ok (.iconst 0, 1) := by decide +kernel
theorem dX4_isUnder_3 : decode cX4_isUnder 3 = .ok (.istore_n 3, 1) := by decide +kernel
theorem dX4_isUnder_4 : decode cX4_isUnder 4 = .ok (.iload_n 3, 1) := by decide +kernel
theorem dX4_isUnder_5 : decode cX4_isUnder 5 = .ok (.getstatic 115, 3) := by decide +kernel
theorem dX4_isUnder_8 : decode cX4_isUnder 8 = .ok (.arraylength, 1) := by decide +kernel
theorem dX4_isUnder_9 : decode cX4_isUnder 9 = .ok (.if_icmp .ge 34, 3) := by decide +kernel
theorem dX4_isUnder_12 : decode cX4_isUnder 12 = .ok (.iload_n 2, 1) := by decide +kernel
theorem dX4_isUnder_13 : decode cX4_isUnder 13 = .ok (.ifCond .lt 30, 3) := by decide +kernel
theorem dX4_isUnder_16 : decode cX4_isUnder 16 = .ok (.iload_n 2, 1) := by decide +kernel
theorem dX4_isUnder_17 : decode cX4_isUnder 17 = .ok (.getstatic 115, 3) := by decide +kernel
theorem dX4_isUnder_20 : decode cX4_isUnder 20 = .ok (.arraylength, 1) := by decide +kernel
theorem dX4_isUnder_21 : decode cX4_isUnder 21 = .ok (.if_icmp .ge 22, 3) := by decide +kernel
theorem dX4_isUnder_24 : decode cX4_isUnder 24 = .ok (.iload_n 2, 1) := by decide +kernel
theorem dX4_isUnder_25 : decode cX4_isUnder 25 = .ok (.iload_n 1, 1) := by decide +kernel
theorem dX4_isUnder_26 : decode cX4_isUnder 26 = .ok (.if_icmp .ne 5, 3) := by decide +kernel
theorem dX4_isUnder_29 : decode cX4_isUnder 29 = .ok (.iconst 1, 1) := by decide +kernel
theorem dX4_isUnder_30 : decode cX4_isUnder 30 = .ok (.ireturn, 1) := by decide +kernel
theorem dX4_isUnder_31 : decode cX4_isUnder 31 = .ok (.getstatic 115, 3) := by decide +kernel
theorem dX4_isUnder_34 : decode cX4_isUnder 34 = .ok (.iload_n 2, 1) := by decide +kernel
theorem dX4_isUnder_35 : decode cX4_isUnder 35 = .ok (.iaload, 1) := by decide +kernel
theorem dX4_isUnder_36 : decode cX4_isUnder 36 = .ok (.istore_n 2, 1) := by decide +kernel
theorem dX4_isUnder_37 : decode cX4_isUnder 37 = .ok (.iinc 3 1, 3) := by decide +kernel
theorem dX4_isUnder_40 : decode cX4_isUnder 40 = .ok (.goto (-36), 3) := by decide +kernel
theorem dX4_isUnder_43 : decode cX4_isUnder 43 = .ok (.iconst 0, 1) := by decide +kernel
theorem dX4_isUnder_44 : decode cX4_isUnder 44 = .ok (.ireturn, 1) := by decide +kernel
theorem dX4_handIn_0 : decode cX4_handIn 0 = .ok (.iconst 1, 1) := by decide +kernel
theorem dX4_handIn_1 : decode cX4_handIn 1 = .ok (.istore_n 3, 1) := by decide +kernel
theorem dX4_handIn_2 : decode cX4_handIn 2 = .ok (.iload_n 3, 1) := by decide +kernel
theorem dX4_handIn_3 : decode cX4_handIn 3 = .ok (.aload_n 0, 1) := by decide +kernel
theorem dX4_handIn_4 : decode cX4_handIn 4 = .ok (.getfield 248, 3) := by decide +kernel
theorem dX4_handIn_7 : decode cX4_handIn 7 = .ok (.aload_n 0, 1) := by decide +kernel
theorem dX4_handIn_8 : decode cX4_handIn 8 = .ok (.getfield 251, 3) := by decide +kernel
theorem dX4_handIn_11 : decode cX4_handIn 11 = .ok (.iadd, 1) := by decide +kernel
theorem dX4_handIn_12 : decode cX4_handIn 12 = .ok (.if_icmp .gt 49, 3) := by decide +kernel
theorem dX4_handIn_15 : decode cX4_handIn 15 = .ok (.iload_n 2, 1) := by decide +kernel
theorem dX4_handIn_16 : decode cX4_handIn 16 = .ok (.iload_n 3, 1) := by decide +kernel
theorem dX4_handIn_17 : decode cX4_handIn 17 = .ok (.isub, 1) := by decide +kernel
theorem dX4_handIn_18 : decode cX4_handIn 18 = .ok (.istore 4, 2) := by decide +kernel
theorem dX4_handIn_20 : decode cX4_handIn 20 = .ok (.iload 4, 2) := by decide +kernel
theorem dX4_handIn_22 : decode cX4_handIn 22 = .ok (.ifCond .lt 33, 3) := by decide +kernel
theorem dX4_handIn_25 : decode cX4_handIn 25 = .ok (.iload 4, 2) := by decide +kernel
theorem dX4_handIn_27 : decode cX4_handIn 27 = .ok (.bipush 24, 2) := by decide +kernel
theorem dX4_handIn_29 : decode cX4_handIn 29 = .ok (.if_icmp .ge 26, 3) := by decide +kernel
theorem dX4_handIn_32 : decode cX4_handIn 32 = .ok (.iload_n 1, 1) := by decide +kernel
theorem dX4_handIn_33 : decode cX4_handIn 33 = .ok (.iload 4, 2) := by decide +kernel
theorem dX4_handIn_35 : decode cX4_handIn 35 = .ok (.invokestatic 107, 3) := by decide +kernel
theorem dX4_handIn_38 : decode cX4_handIn 38 = .ok (.ifCond .eq 17, 3) := by decide +kernel
theorem dX4_handIn_41 : decode cX4_handIn 41 = .ok (.iload_n 3, 1) := by decide +kernel
theorem dX4_handIn_42 : decode cX4_handIn 42 = .ok (.aload_n 0, 1) := by decide +kernel
theorem dX4_handIn_43 : decode cX4_handIn 43 = .ok (.getfield 248, 3) := by decide +kernel
theorem dX4_handIn_46 : decode cX4_handIn 46 = .ok (.if_icmp .gt 7, 3) := by decide +kernel
theorem dX4_handIn_49 : decode cX4_handIn 49 = .ok (.iconst 0, 1) := by decide +kernel
theorem dX4_handIn_50 : decode cX4_handIn 50 = .ok (.goto 4, 3) := by decide +kernel
theorem dX4_handIn_53 : decode cX4_handIn 53 = .ok (.iconst 1, 1) := by decide +kernel
theorem dX4_handIn_54 : decode cX4_handIn 54 = .ok (.ireturn, 1) := by decide +kernel
theorem dX4_handIn_55 : decode cX4_handIn 55 = .ok (.iinc 3 1, 3) := by decide +kernel
theorem dX4_handIn_58 : decode cX4_handIn 58 = .ok (.goto (-56), 3) := by decide +kernel
theorem dX4_handIn_61 : decode cX4_handIn 61 = .ok (.iconst 2, 1) := by decide +kernel
theorem dX4_handIn_62 : decode cX4_handIn 62 = .ok (.ireturn, 1) := by decide +kernel
theorem dX4_startDay_0 : decode cX4_startDay 0 = .ok (.aload_n 0, 1) := by decide +kernel
theorem dX4_startDay_1 : decode cX4_startDay 1 = .ok (.getfield 29, 3) := by decide +kernel
theorem dX4_startDay_4 : decode cX4_startDay 4 = .ok (.invokevirtual 260, 3) := by decide +kernel
theorem dX4_startDay_7 : decode cX4_startDay 7 = .ok (.aload_n 0, 1) := by decide +kernel
theorem dX4_startDay_8 : decode cX4_startDay 8 = .ok (.iconst 0, 1) := by decide +kernel
theorem dX4_startDay_9 : decode cX4_startDay 9 = .ok (.putfield 169, 3) := by decide +kernel
theorem dX4_startDay_12 : decode cX4_startDay 12 = .ok (.aload_n 0, 1) := by decide +kernel
theorem dX4_startDay_13 : decode cX4_startDay 13 = .ok (.iconst 0, 1) := by decide +kernel
theorem dX4_startDay_14 : decode cX4_startDay 14 = .ok (.putfield 175, 3) := by decide +kernel
theorem dX4_startDay_17 : decode cX4_startDay 17 = .ok (.aload_n 0, 1) := by decide +kernel
theorem dX4_startDay_18 : decode cX4_startDay 18 = .ok (.iconst 0, 1) := by decide +kernel
theorem dX4_startDay_19 : decode cX4_startDay 19 = .ok (.putfield 194, 3) := by decide +kernel
theorem dX4_startDay_22 : decode cX4_startDay 22 = .ok (.aload_n 0, 1) := by decide +kernel
theorem dX4_startDay_23 : decode cX4_startDay 23 = .ok (.iconst 0, 1) := by decide +kernel
theorem dX4_startDay_24 : decode cX4_startDay 24 = .ok (.putfield 133, 3) := by decide +kernel
theorem dX4_startDay_27 : decode cX4_startDay 27 = .ok (.aload_n 0, 1) := by decide +kernel
theorem dX4_startDay_28 : decode cX4_startDay 28 = .ok (.iconst 0, 1) := by decide +kernel
theorem dX4_startDay_29 : decode cX4_startDay 29 = .ok (.putfield 221, 3) := by decide +kernel
theorem dX4_startDay_32 : decode cX4_startDay 32 = .ok (.return_, 1) := by decide +kernel
theorem dX4_servesAsTool_0 : decode cX4_servesAsTool 0 = .ok (.aload_n 0, 1) := by decide +kernel
theorem dX4_servesAsTool_1 : decode cX4_servesAsTool 1 = .ok (.getfield 10, 3) := by decide +kernel
theorem dX4_servesAsTool_4 : decode cX4_servesAsTool 4 = .ok (.getfield 88, 3) := by decide +kernel
theorem dX4_servesAsTool_7 : decode cX4_servesAsTool 7 = .ok (.iload_n 1, 1) := by decide +kernel
theorem dX4_servesAsTool_8 : decode cX4_servesAsTool 8 = .ok (.iaload, 1) := by decide +kernel
theorem dX4_servesAsTool_9 : decode cX4_servesAsTool 9 = .ok (.iconst 1, 1) := by decide +kernel
theorem dX4_servesAsTool_10 : decode cX4_servesAsTool 10 = .ok (.if_icmp .ne 43, 3) := by decide +kernel
theorem dX4_servesAsTool_13 : decode cX4_servesAsTool 13 = .ok (.aload_n 0, 1) := by decide +kernel
theorem dX4_servesAsTool_14 : decode cX4_servesAsTool 14 = .ok (.getfield 10, 3) := by decide +kernel
theorem dX4_servesAsTool_17 : decode cX4_servesAsTool 17 = .ok (.getfield 97, 3) := by decide +kernel
theorem dX4_servesAsTool_20 : decode cX4_servesAsTool 20 = .ok (.iload_n 1, 1) := by decide +kernel
theorem dX4_servesAsTool_21 : decode cX4_servesAsTool 21 = .ok (.iaload, 1) := by decide +kernel
theorem dX4_servesAsTool_22 : decode cX4_servesAsTool 22 = .ok (.aload_n 0, 1) := by decide +kernel
theorem dX4_servesAsTool_23 : decode cX4_servesAsTool 23 = .ok (.getfield 10, 3) := by decide +kernel
theorem dX4_servesAsTool_26 : decode cX4_servesAsTool 26 = .ok (.getfield 97, 3) := by decide +kernel
theorem dX4_servesAsTool_29 : decode cX4_servesAsTool 29 = .ok (.iload_n 2, 1) := by decide +kernel
theorem dX4_servesAsTool_30 : decode cX4_servesAsTool 30 = .ok (.iaload, 1) := by decide +kernel
theorem dX4_servesAsTool_31 : decode cX4_servesAsTool 31 = .ok (.if_icmp .ne 22, 3) := by decide +kernel
theorem dX4_servesAsTool_34 : decode cX4_servesAsTool 34 = .ok (.aload_n 0, 1) := by decide +kernel
theorem dX4_servesAsTool_35 : decode cX4_servesAsTool 35 = .ok (.getfield 29, 3) := by decide +kernel
theorem dX4_servesAsTool_38 : decode cX4_servesAsTool 38 = .ok (.aload_n 0, 1) := by decide +kernel
theorem dX4_servesAsTool_39 : decode cX4_servesAsTool 39 = .ok (.getfield 10, 3) := by decide +kernel
theorem dX4_servesAsTool_42 : decode cX4_servesAsTool 42 = .ok (.iload_n 1, 1) := by decide +kernel
theorem dX4_servesAsTool_43 : decode cX4_servesAsTool 43 = .ok (.invokevirtual 146, 3) := by decide +kernel
theorem dX4_servesAsTool_46 : decode cX4_servesAsTool 46 = .ok (.ifCond .ne 7, 3) := by decide +kernel
theorem dX4_servesAsTool_49 : decode cX4_servesAsTool 49 = .ok (.iconst 1, 1) := by decide +kernel
theorem dX4_servesAsTool_50 : decode cX4_servesAsTool 50 = .ok (.goto 4, 3) := by decide +kernel
theorem dX4_servesAsTool_53 : decode cX4_servesAsTool 53 = .ok (.iconst 0, 1) := by decide +kernel
theorem dX4_servesAsTool_54 : decode cX4_servesAsTool 54 = .ok (.ireturn, 1) := by decide +kernel
theorem dX4_remember_0 : decode cX4_remember 0 = .ok (.aload_n 0, 1) := by decide +kernel
theorem dX4_remember_1 : decode cX4_remember 1 = .ok (.getfield 169, 3) := by decide +kernel
theorem dX4_remember_4 : decode cX4_remember 4 = .ok (.bipush 8, 2) := by decide +kernel
theorem dX4_remember_6 : decode cX4_remember 6 = .ok (.if_icmp .lt 52, 3) := by decide +kernel
theorem dX4_remember_9 : decode cX4_remember 9 = .ok (.aload_n 0, 1) := by decide +kernel
theorem dX4_remember_10 : decode cX4_remember 10 = .ok (.getfield 36, 3) := by decide +kernel
theorem dX4_remember_13 : decode cX4_remember 13 = .ok (.iconst 0, 1) := by decide +kernel
theorem dX4_remember_14 : decode cX4_remember 14 = .ok (.aaload, 1) := by decide +kernel
theorem dX4_remember_15 : decode cX4_remember 15 = .ok (.astore_n 1, 1) := by decide +kernel
theorem dX4_remember_16 : decode cX4_remember 16 = .ok (.iconst 1, 1) := by decide +kernel
theorem dX4_remember_17 : decode cX4_remember 17 = .ok (.istore_n 2, 1) := by decide +kernel
theorem dX4_remember_18 : decode cX4_remember 18 = .ok (.iload_n 2, 1) := by decide +kernel
theorem dX4_remember_19 : decode cX4_remember 19 = .ok (.bipush 8, 2) := by decide +kernel
theorem dX4_remember_21 : decode cX4_remember 21 = .ok (.if_icmp .ge 23, 3) := by decide +kernel
theorem dX4_remember_24 : decode cX4_remember 24 = .ok (.aload_n 0, 1) := by decide +kernel
theorem dX4_remember_25 : decode cX4_remember 25 = .ok (.getfield 36, 3) := by decide +kernel
theorem dX4_remember_28 : decode cX4_remember 28 = .ok (.iload_n 2, 1) := by decide +kernel
theorem dX4_remember_29 : decode cX4_remember 29 = .ok (.iconst 1, 1) := by decide +kernel
theorem dX4_remember_30 : decode cX4_remember 30 = .ok (.isub, 1) := by decide +kernel
theorem dX4_remember_31 : decode cX4_remember 31 = .ok (.aload_n 0, 1) := by decide +kernel
theorem dX4_remember_32 : decode cX4_remember 32 = .ok (.getfield 36, 3) := by decide +kernel
theorem dX4_remember_35 : decode cX4_remember 35 = .ok (.iload_n 2, 1) := by decide +kernel
theorem dX4_remember_36 : decode cX4_remember 36 = .ok (.aaload, 1) := by decide +kernel
theorem dX4_remember_37 : decode cX4_remember 37 = .ok (.aastore, 1) := by decide +kernel
theorem dX4_remember_38 : decode cX4_remember 38 = .ok (.iinc 2 1, 3) := by decide +kernel
theorem dX4_remember_41 : decode cX4_remember 41 = .ok (.goto (-23), 3) := by decide +kernel
theorem dX4_remember_44 : decode cX4_remember 44 = .ok (.aload_n 0, 1) := by decide +kernel
theorem dX4_remember_45 : decode cX4_remember 45 = .ok (.getfield 36, 3) := by decide +kernel
theorem dX4_remember_48 : decode cX4_remember 48 = .ok (.bipush 7, 2) := by decide +kernel
theorem dX4_remember_50 : decode cX4_remember 50 = .ok (.aload_n 1, 1) := by decide +kernel
theorem dX4_remember_51 : decode cX4_remember 51 = .ok (.aastore, 1) := by decide +kernel
theorem dX4_remember_52 : decode cX4_remember 52 = .ok (.aload_n 0, 1) := by decide +kernel
theorem dX4_remember_53 : decode cX4_remember 53 = .ok (.bipush 7, 2) := by decide +kernel
theorem dX4_remember_55 : decode cX4_remember 55 = .ok (.putfield 169, 3) := by decide +kernel
theorem dX4_remember_58 : decode cX4_remember 58 = .ok (.aload_n 0, 1) := by decide +kernel
theorem dX4_remember_59 : decode cX4_remember 59 = .ok (.getfield 36, 3) := by decide +kernel
theorem dX4_remember_62 : decode cX4_remember 62 = .ok (.aload_n 0, 1) := by decide +kernel
theorem dX4_remember_63 : decode cX4_remember 63 = .ok (.getfield 169, 3) := by decide +kernel
theorem dX4_remember_66 : decode cX4_remember 66 = .ok (.aaload, 1) := by decide +kernel
theorem dX4_remember_67 : decode cX4_remember 67 = .ok (.aload_n 0, 1) := by decide +kernel
theorem dX4_remember_68 : decode cX4_remember 68 = .ok (.getfield 29, 3) := by decide +kernel
theorem dX4_remember_71 : decode cX4_remember 71 = .ok (.invokevirtual 172, 3) := by decide +kernel
theorem dX4_remember_74 : decode cX4_remember 74 = .ok (.aload_n 0, 1) := by decide +kernel
theorem dX4_remember_75 : decode cX4_remember 75 = .ok (.dup, 1) := by decide +kernel
theorem dX4_remember_76 : decode cX4_remember 76 = .ok (.getfield 169, 3) := by decide +kernel
theorem dX4_remember_79 : decode cX4_remember 79 = .ok (.iconst 1, 1) := by decide +kernel
theorem dX4_remember_80 : decode cX4_remember 80 = .ok (.iadd, 1) := by decide +kernel
theorem dX4_remember_81 : decode cX4_remember 81 = .ok (.putfield 169, 3) := by decide +kernel
theorem dX4_remember_84 : decode cX4_remember 84 = .ok (.return_, 1) := by decide +kernel
theorem dX4_doTouching_0 : decode cX4_doTouching 0 = .ok (.aload_n 0, 1) := by decide +kernel
theorem dX4_doTouching_1 : decode cX4_doTouching 1 = .ok (.invokevirtual 163, 3) := by decide +kernel
theorem dX4_doTouching_4 : decode cX4_doTouching 4 = .ok (.aload_n 0, 1) := by decide +kernel
theorem dX4_doTouching_5 : decode cX4_doTouching 5 = .ok (.getfield 29, 3) := by decide +kernel
theorem dX4_doTouching_8 : decode cX4_doTouching 8 = .ok (.aload_n 0, 1) := by decide +kernel
theorem dX4_doTouching_9 : decode cX4_doTouching 9 = .ok (.getfield 10, 3) := by decide +kernel
theorem dX4_doTouching_12 : decode cX4_doTouching 12 = .ok (.iload_n 1, 1) := by decide +kernel
theorem dX4_doTouching_13 : decode cX4_doTouching 13 = .ok (.invokevirtual 263, 3) := by decide +kernel
theorem dX4_doTouching_16 : decode cX4_doTouching 16 = .ok (.aload_n 0, 1) := by decide +kernel
theorem dX4_doTouching_17 : decode cX4_doTouching 17 = .ok (.getfield 29, 3) := by decide +kernel
theorem dX4_doTouching_20 : decode cX4_doTouching 20 = .ok (.iload_n 1, 1) := by decide +kernel
theorem dX4_doTouching_21 : decode cX4_doTouching 21 = .ok (.invokevirtual 100, 3) := by decide +kernel
theorem dX4_doTouching_24 : decode cX4_doTouching 24 = .ok (.istore_n 2, 1) := by decide +kernel
theorem dX4_doTouching_25 : decode cX4_doTouching 25 = .ok (.aload_n 0, 1) := by decide +kernel
theorem dX4_doTouching_26 : decode cX4_doTouching 26 = .ok (.getfield 29, 3) := by decide +kernel
theorem dX4_doTouching_29 : decode cX4_doTouching 29 = .ok (.aload_n 0, 1) := by decide +kernel
theorem dX4_doTouching_30 : decode cX4_doTouching 30 = .ok (.getfield 10, 3) := by decide +kernel
theorem dX4_doTouching_33 : decode cX4_doTouching 33 = .ok (.invokevirtual 166, 3) := by decide +kernel
theorem dX4_doTouching_36 : decode cX4_doTouching 36 = .ok (.iload_n 2, 1) := by decide +kernel
theorem dX4_doTouching_37 : decode cX4_doTouching 37 = .ok (.ireturn, 1) := by decide +kernel
theorem dX4_doEating_0 : decode cX4_doEating 0 = .ok (.aload_n 0, 1) := by decide +kernel
theorem dX4_doEating_1 : decode cX4_doEating 1 = .ok (.invokevirtual 163, 3) := by decide +kernel
theorem dX4_doEating_4 : decode cX4_doEating 4 = .ok (.aload_n 0, 1) := by decide +kernel
theorem dX4_doEating_5 : decode cX4_doEating 5 = .ok (.getfield 29, 3) := by decide +kernel
theorem dX4_doEating_8 : decode cX4_doEating 8 = .ok (.aload_n 0, 1) := by decide +kernel
theorem dX4_doEating_9 : decode cX4_doEating 9 = .ok (.getfield 10, 3) := by decide +kernel
theorem dX4_doEating_12 : decode cX4_doEating 12 = .ok (.iload_n 2, 1) := by decide +kernel
theorem dX4_doEating_13 : decode cX4_doEating 13 = .ok (.invokevirtual 263, 3) := by decide +kernel
theorem dX4_doEating_16 : decode cX4_doEating 16 = .ok (.aload_n 0, 1) := by decide +kernel
theorem dX4_doEating_17 : decode cX4_doEating 17 = .ok (.getfield 29, 3) := by decide +kernel
theorem dX4_doEating_20 : decode cX4_doEating 20 = .ok (.iload_n 1, 1) := by decide +kernel
theorem dX4_doEating_21 : decode cX4_doEating 21 = .ok (.invokevirtual 100, 3) := by decide +kernel
theorem dX4_doEating_24 : decode cX4_doEating 24 = .ok (.ifCond .ne 7, 3) := by decide +kernel
theorem dX4_doEating_27 : decode cX4_doEating 27 = .ok (.iconst 1, 1) := by decide +kernel
theorem dX4_doEating_28 : decode cX4_doEating 28 = .ok (.goto 4, 3) := by decide +kernel
theorem dX4_doEating_31 : decode cX4_doEating 31 = .ok (.iconst 0, 1) := by decide +kernel
theorem dX4_doEating_32 : decode cX4_doEating 32 = .ok (.istore_n 3, 1) := by decide +kernel
theorem dX4_doEating_33 : decode cX4_doEating 33 = .ok (.iload_n 3, 1) := by decide +kernel
theorem dX4_doEating_34 : decode cX4_doEating 34 = .ok (.ifCond .eq 18, 3) := by decide +kernel
theorem dX4_doEating_37 : decode cX4_doEating 37 = .ok (.aload_n 0, 1) := by decide +kernel
theorem dX4_doEating_38 : decode cX4_doEating 38 = .ok (.getfield 29, 3) := by decide +kernel
theorem dX4_doEating_41 : decode cX4_doEating 41 = .ok (.dup, 1) := by decide +kernel
theorem dX4_doEating_42 : decode cX4_doEating 42 = .ok (.getfield 104, 3) := by decide +kernel
theorem dX4_doEating_45 : decode cX4_doEating 45 = .ok (.iconst 1, 1) := by decide +kernel
theorem dX4_doEating_46 : decode cX4_doEating 46 = .ok (.iload_n 1, 1) := by decide +kernel
theorem dX4_doEating_47 : decode cX4_doEating 47 = .ok (.ishl, 1) := by decide +kernel
theorem dX4_doEating_48 : decode cX4_doEating 48 = .ok (.ior, 1) := by decide +kernel
theorem dX4_doEating_49 : decode cX4_doEating 49 = .ok (.putfield 104, 3) := by decide +kernel
theorem dX4_doEating_52 : decode cX4_doEating 52 = .ok (.aload_n 0, 1) := by decide +kernel
theorem dX4_doEating_53 : decode cX4_doEating 53 = .ok (.getfield 29, 3) := by decide +kernel
theorem dX4_doEating_56 : decode cX4_doEating 56 = .ok (.aload_n 0, 1) := by decide +kernel
theorem dX4_doEating_57 : decode cX4_doEating 57 = .ok (.getfield 10, 3) := by decide +kernel
theorem dX4_doEating_60 : decode cX4_doEating 60 = .ok (.invokevirtual 166, 3) := by decide +kernel
theorem dX4_doEating_63 : decode cX4_doEating 63 = .ok (.iload_n 3, 1) := by decide +kernel
theorem dX4_doEating_64 : decode cX4_doEating 64 = .ok (.ifCond .eq 7, 3) := by decide +kernel
theorem dX4_doEating_67 : decode cX4_doEating 67 = .ok (.iconst 1, 1) := by decide +kernel
theorem dX4_doEating_68 : decode cX4_doEating 68 = .ok (.goto 4, 3) := by decide +kernel
theorem dX4_doEating_71 : decode cX4_doEating 71 = .ok (.iconst 0, 1) := by decide +kernel
theorem dX4_doEating_72 : decode cX4_doEating 72 = .ok (.ireturn, 1) := by decide +kernel
theorem dX4_townThings_0 : decode cX4_townThings 0 = .ok (.iconst 0, 1) := by decide +kernel
theorem dX4_townThings_1 : decode cX4_townThings 1 = .ok (.istore_n 1, 1) := by decide +kernel
theorem dX4_townThings_2 : decode cX4_townThings 2 = .ok (.iconst 0, 1) := by decide +kernel
theorem dX4_townThings_3 : decode cX4_townThings 3 = .ok (.istore_n 2, 1) := by decide +kernel
theorem dX4_townThings_4 : decode cX4_townThings 4 = .ok (.iload_n 2, 1) := by decide +kernel
theorem dX4_townThings_5 : decode cX4_townThings 5 = .ok (.aload_n 0, 1) := by decide +kernel
theorem dX4_townThings_6 : decode cX4_townThings 6 = .ok (.getfield 10, 3) := by decide +kernel
theorem dX4_townThings_9 : decode cX4_townThings 9 = .ok (.getfield 215, 3) := by decide +kernel
theorem dX4_townThings_12 : decode cX4_townThings 12 = .ok (.if_icmp .ge 57, 3) := by decide +kernel
theorem dX4_townThings_15 : decode cX4_townThings 15 = .ok (.aload_n 0, 1) := by decide +kernel
theorem dX4_townThings_16 : decode cX4_townThings 16 = .ok (.getfield 10, 3) := by decide +kernel
theorem dX4_townThings_19 : decode cX4_townThings 19 = .ok (.getfield 88, 3) := by decide +kernel
theorem dX4_townThings_22 : decode cX4_townThings 22 = .ok (.iload_n 2, 1) := by decide +kernel
theorem dX4_townThings_23 : decode cX4_townThings 23 = .ok (.iaload, 1) := by decide +kernel
theorem dX4_townThings_24 : decode cX4_townThings 24 = .ok (.iconst 3, 1) := by decide +kernel
theorem dX4_townThings_25 : decode cX4_townThings 25 = .ok (.if_icmp .eq 38, 3) := by decide +kernel
theorem dX4_townThings_28 : decode cX4_townThings 28 = .ok (.aload_n 0, 1) := by decide +kernel
theorem dX4_townThings_29 : decode cX4_townThings 29 = .ok (.getfield 29, 3) := by decide +kernel
theorem dX4_townThings_32 : decode cX4_townThings 32 = .ok (.getfield 182, 3) := by decide +kernel
theorem dX4_townThings_35 : decode cX4_townThings 35 = .ok (.iload_n 2, 1) := by decide +kernel
theorem dX4_townThings_36 : decode cX4_townThings 36 = .ok (.invokestatic 107, 3) := by decide +kernel
theorem dX4_townThings_39 : decode cX4_townThings 39 = .ok (.ifCond .ne 24, 3) := by decide +kernel
theorem dX4_townThings_42 : decode cX4_townThings 42 = .ok (.aload_n 0, 1) := by decide +kernel
theorem dX4_townThings_43 : decode cX4_townThings 43 = .ok (.getfield 29, 3) := by decide +kernel
theorem dX4_townThings_46 : decode cX4_townThings 46 = .ok (.aload_n 0, 1) := by decide +kernel
theorem dX4_townThings_47 : decode cX4_townThings 47 = .ok (.getfield 10, 3) := by decide +kernel
theorem dX4_townThings_50 : decode cX4_townThings 50 = .ok (.iload_n 2, 1) := by decide +kernel
theorem dX4_townThings_51 : decode cX4_townThings 51 = .ok (.invokevirtual 146, 3) := by decide +kernel
theorem dX4_townThings_54 : decode cX4_townThings 54 = .ok (.ifCond .ne 9, 3) := by decide +kernel
theorem dX4_townThings_57 : decode cX4_townThings 57 = .ok (.iload_n 1, 1) := by decide +kernel
theorem dX4_townThings_58 : decode cX4_townThings 58 = .ok (.iconst 1, 1) := by decide +kernel
theorem dX4_townThings_59 : decode cX4_townThings 59 = .ok (.iload_n 2, 1) := by decide +kernel
theorem dX4_townThings_60 : decode cX4_townThings 60 = .ok (.ishl, 1) := by decide +kernel
theorem dX4_townThings_61 : decode cX4_townThings 61 = .ok (.ior, 1) := by decide +kernel
theorem dX4_townThings_62 : decode cX4_townThings 62 = .ok (.istore_n 1, 1) := by decide +kernel
theorem dX4_townThings_63 : decode cX4_townThings 63 = .ok (.iinc 2 1, 3) := by decide +kernel
theorem dX4_townThings_66 : decode cX4_townThings 66 = .ok (.goto (-62), 3) := by decide +kernel
theorem dX4_townThings_69 : decode cX4_townThings 69 = .ok (.iload_n 1, 1) := by decide +kernel
theorem dX4_townThings_70 : decode cX4_townThings 70 = .ok (.ireturn, 1) := by decide +kernel
theorem dX4_thiefGain_0 : decode cX4_thiefGain 0 = .ok (.aload_n 0, 1) := by decide +kernel
theorem dX4_thiefGain_1 : decode cX4_thiefGain 1 = .ok (.getfield 29, 3) := by decide +kernel
theorem dX4_thiefGain_4 : decode cX4_thiefGain 4 = .ok (.getfield 104, 3) := by decide +kernel
theorem dX4_thiefGain_7 : decode cX4_thiefGain 7 = .ok (.iload_n 1, 1) := by decide +kernel
theorem dX4_thiefGain_8 : decode cX4_thiefGain 8 = .ok (.invokestatic 107, 3) := by decide +kernel
theorem dX4_thiefGain_11 : decode cX4_thiefGain 11 = .ok (.ifCond .ne 16, 3) := by decide +kernel
theorem dX4_thiefGain_14 : decode cX4_thiefGain 14 = .ok (.aload_n 0, 1) := by decide +kernel
theorem dX4_thiefGain_15 : decode cX4_thiefGain 15 = .ok (.getfield 10, 3) := by decide +kernel
theorem dX4_thiefGain_18 : decode cX4_thiefGain 18 = .ok (.getfield 97, 3) := by decide +kernel
theorem dX4_thiefGain_21 : decode cX4_thiefGain 21 = .ok (.iload_n 1, 1) := by decide +kernel
theorem dX4_thiefGain_22 : decode cX4_thiefGain 22 = .ok (.iaload, 1) := by decide +kernel
theorem dX4_thiefGain_23 : decode cX4_thiefGain 23 = .ok (.iload_n 2, 1) := by decide +kernel
theorem dX4_thiefGain_24 : decode cX4_thiefGain 24 = .ok (.if_icmp .ne 5, 3) := by decide +kernel
theorem dX4_thiefGain_27 : decode cX4_thiefGain 27 = .ok (.iconst 0, 1) := by decide +kernel
theorem dX4_thiefGain_28 : decode cX4_thiefGain 28 = .ok (.ireturn, 1) := by decide +kernel
theorem dX4_thiefGain_29 : decode cX4_thiefGain 29 = .ok (.iconst 0, 1) := by decide +kernel
theorem dX4_thiefGain_30 : decode cX4_thiefGain 30 = .ok (.iconst 3, 1) := by decide +kernel
theorem dX4_thiefGain_31 : decode cX4_thiefGain 31 = .ok (.aload_n 0, 1) := by decide +kernel
theorem dX4_thiefGain_32 : decode cX4_thiefGain 32 = .ok (.getfield 10, 3) := by decide +kernel
theorem dX4_thiefGain_35 : decode cX4_thiefGain 35 = .ok (.getfield 91, 3) := by decide +kernel
theorem dX4_thiefGain_38 : decode cX4_thiefGain 38 = .ok (.iload_n 1, 1) := by decide +kernel
theorem dX4_thiefGain_39 : decode cX4_thiefGain 39 = .ok (.iaload, 1) := by decide +kernel
theorem dX4_thiefGain_40 : decode cX4_thiefGain 40 = .ok (.imul, 1) := by decide +kernel
theorem dX4_thiefGain_41 : decode cX4_thiefGain 41 = .ok (.aload_n 0, 1) := by decide +kernel
theorem dX4_thiefGain_42 : decode cX4_thiefGain 42 = .ok (.getfield 29, 3) := by decide +kernel
theorem dX4_thiefGain_45 : decode cX4_thiefGain 45 = .ok (.aload_n 0, 1) := by decide +kernel
theorem dX4_thiefGain_46 : decode cX4_thiefGain 46 = .ok (.getfield 10, 3) := by decide +kernel
theorem dX4_thiefGain_49 : decode cX4_thiefGain 49 = .ok (.iload_n 1, 1) := by decide +kernel
theorem dX4_thiefGain_50 : decode cX4_thiefGain 50 = .ok (.invokevirtual 111, 3) := by decide +kernel
theorem dX4_thiefGain_53 : decode cX4_thiefGain 53 = .ok (.isub, 1) := by decide +kernel
theorem dX4_thiefGain_54 : decode cX4_thiefGain 54 = .ok (.invokestatic 267, 3) := by decide +kernel
theorem dX4_thiefGain_57 : decode cX4_thiefGain 57 = .ok (.ireturn, 1) := by decide +kernel
theorem dX4_isRest_0 : decode cX4_isRest 0 = .ok (.aload_n 0, 1) := by decide +kernel
theorem dX4_isRest_1 : decode cX4_isRest 1 = .ok (.iload_n 1, 1) := by decide +kernel
theorem dX4_isRest_2 : decode cX4_isRest 2 = .ok (.iload_n 2, 1) := by decide +kernel
theorem dX4_isRest_3 : decode cX4_isRest 3 = .ok (.invokevirtual 272, 3) := by decide +kernel
theorem dX4_isRest_6 : decode cX4_isRest 6 = .ok (.istore_n 3, 1) := by decide +kernel
theorem dX4_isRest_7 : decode cX4_isRest 7 = .ok (.iconst 0, 1) := by decide +kernel
theorem dX4_isRest_8 : decode cX4_isRest 8 = .ok (.istore 4, 2) := by decide +kernel
theorem dX4_isRest_10 : decode cX4_isRest 10 = .ok (.iload 4, 2) := by decide +kernel
theorem dX4_isRest_12 : decode cX4_isRest 12 = .ok (.aload_n 0, 1) := by decide +kernel
theorem dX4_isRest_13 : decode cX4_isRest 13 = .ok (.getfield 10, 3) := by decide +kernel
theorem dX4_isRest_16 : decode cX4_isRest 16 = .ok (.getfield 215, 3) := by decide +kernel
theorem dX4_isRest_19 : decode cX4_isRest 19 = .ok (.if_icmp .ge 22, 3) := by decide +kernel
theorem dX4_isRest_22 : decode cX4_isRest 22 = .ok (.aload_n 0, 1) := by decide +kernel
theorem dX4_isRest_23 : decode cX4_isRest 23 = .ok (.iload 4, 2) := by decide +kernel
theorem dX4_isRest_25 : decode cX4_isRest 25 = .ok (.iload_n 2, 1) := by decide +kernel
theorem dX4_isRest_26 : decode cX4_isRest 26 = .ok (.invokevirtual 272, 3) := by decide +kernel
theorem dX4_isRest_29 : decode cX4_isRest 29 = .ok (.iload_n 3, 1) := by decide +kernel
theorem dX4_isRest_30 : decode cX4_isRest 30 = .ok (.if_icmp .le 5, 3) := by decide +kernel
theorem dX4_isRest_33 : decode cX4_isRest 33 = .ok (.iconst 0, 1) := by decide +kernel
theorem dX4_isRest_34 : decode cX4_isRest 34 = .ok (.ireturn, 1) := by decide +kernel
theorem dX4_isRest_35 : decode cX4_isRest 35 = .ok (.iinc 4 1, 3) := by decide +kernel
theorem dX4_isRest_38 : decode cX4_isRest 38 = .ok (.goto (-28), 3) := by decide +kernel
theorem dX4_isRest_41 : decode cX4_isRest 41 = .ok (.iconst 0, 1) := by decide +kernel
theorem dX4_isRest_42 : decode cX4_isRest 42 = .ok (.istore 4, 2) := by decide +kernel
theorem dX4_isRest_44 : decode cX4_isRest 44 = .ok (.iload 4, 2) := by decide +kernel
theorem dX4_isRest_46 : decode cX4_isRest 46 = .ok (.iconst 3, 1) := by decide +kernel
theorem dX4_isRest_47 : decode cX4_isRest 47 = .ok (.if_icmp .ge 22, 3) := by decide +kernel
theorem dX4_isRest_50 : decode cX4_isRest 50 = .ok (.aload_n 0, 1) := by decide +kernel
theorem dX4_isRest_51 : decode cX4_isRest 51 = .ok (.iload_n 1, 1) := by decide +kernel
theorem dX4_isRest_52 : decode cX4_isRest 52 = .ok (.iload 4, 2) := by decide +kernel
theorem dX4_isRest_54 : decode cX4_isRest 54 = .ok (.invokevirtual 272, 3) := by decide +kernel
theorem dX4_isRest_57 : decode cX4_isRest 57 = .ok (.iload_n 3, 1) := by decide +kernel
theorem dX4_isRest_58 : decode cX4_isRest 58 = .ok (.if_icmp .ge 5, 3) := by decide +kernel
theorem dX4_isRest_61 : decode cX4_isRest 61 = .ok (.iconst 0, 1) := by decide +kernel
theorem dX4_isRest_62 : decode cX4_isRest 62 = .ok (.ireturn, 1) := by decide +kernel
theorem dX4_isRest_63 : decode cX4_isRest 63 = .ok (.iinc 4 1, 3) := by decide +kernel
theorem dX4_isRest_66 : decode cX4_isRest 66 = .ok (.goto (-22), 3) := by decide +kernel
theorem dX4_isRest_69 : decode cX4_isRest 69 = .ok (.iconst 1, 1) := by decide +kernel
theorem dX4_isRest_70 : decode cX4_isRest 70 = .ok (.ireturn, 1) := by decide +kernel
theorem dX4_goldEnd_0 : decode cX4_goldEnd 0 = .ok (.aload_n 0, 1) := by decide +kernel
theorem dX4_goldEnd_1 : decode cX4_goldEnd 1 = .ok (.getfield 10, 3) := by decide +kernel
theorem dX4_goldEnd_4 : decode cX4_goldEnd 4 = .ok (.aload_n 0, 1) := by decide +kernel
theorem dX4_goldEnd_5 : decode cX4_goldEnd 5 = .ok (.getfield 29, 3) := by decide +kernel
theorem dX4_goldEnd_8 : decode cX4_goldEnd 8 = .ok (.getfield 140, 3) := by decide +kernel
theorem dX4_goldEnd_11 : decode cX4_goldEnd 11 = .ok (.iload_n 1, 1) := by decide +kernel
theorem dX4_goldEnd_12 : decode cX4_goldEnd 12 = .ok (.invokestatic 143, 3) := by decide +kernel
theorem dX4_goldEnd_15 : decode cX4_goldEnd 15 = .ok (.istore_n 2, 1) := by decide +kernel
theorem dX4_goldEnd_16 : decode cX4_goldEnd 16 = .ok (.iload_n 2, 1) := by decide +kernel
theorem dX4_goldEnd_17 : decode cX4_goldEnd 17 = .ok (.ifCond .ne 5, 3) := by decide +kernel
theorem dX4_goldEnd_20 : decode cX4_goldEnd 20 = .ok (.iload_n 1, 1) := by decide +kernel
theorem dX4_goldEnd_21 : decode cX4_goldEnd 21 = .ok (.ireturn, 1) := by decide +kernel
theorem dX4_goldEnd_22 : decode cX4_goldEnd 22 = .ok (.iload_n 2, 1) := by decide +kernel
theorem dX4_goldEnd_23 : decode cX4_goldEnd 23 = .ok (.iconst 1, 1) := by decide +kernel
theorem dX4_goldEnd_24 : decode cX4_goldEnd 24 = .ok (.if_icmp .ne 24, 3) := by decide +kernel
theorem dX4_goldEnd_27 : decode cX4_goldEnd 27 = .ok (.iload_n 1, 1) := by decide +kernel
theorem dX4_goldEnd_28 : decode cX4_goldEnd 28 = .ok (.aload_n 0, 1) := by decide +kernel
theorem dX4_goldEnd_29 : decode cX4_goldEnd 29 = .ok (.getfield 10, 3) := by decide +kernel
theorem dX4_goldEnd_32 : decode cX4_goldEnd 32 = .ok (.getfield 254, 3) := by decide +kernel
theorem dX4_goldEnd_35 : decode cX4_goldEnd 35 = .ok (.if_icmp .ge 13, 3) := by decide +kernel
theorem dX4_goldEnd_38 : decode cX4_goldEnd 38 = .ok (.aload_n 0, 1) := by decide +kernel
theorem dX4_goldEnd_39 : decode cX4_goldEnd 39 = .ok (.getfield 10, 3) := by decide +kernel
theorem dX4_goldEnd_42 : decode cX4_goldEnd 42 = .ok (.getfield 254, 3) := by decide +kernel
theorem dX4_goldEnd_45 : decode cX4_goldEnd 45 = .ok (.goto 5, 3) := by decide +kernel
theorem dX4_goldEnd_48 : decode cX4_goldEnd 48 = .ok (.bipush 24, 2) := by decide +kernel
theorem dX4_goldEnd_50 : decode cX4_goldEnd 50 = .ok (.ireturn, 1) := by decide +kernel
theorem dX4_fitsSeen_0 : decode cX4_fitsSeen 0 = .ok (.iconst 0, 1) := by decide +kernel
theorem dX4_fitsSeen_1 : decode cX4_fitsSeen 1 = .ok (.istore 4, 2) := by decide +kernel
theorem dX4_fitsSeen_3 : decode cX4_fitsSeen 3 = .ok (.iload 4, 2) := by decide +kernel
theorem dX4_fitsSeen_5 : decode cX4_fitsSeen 5 = .ok (.aload_n 0, 1) := by decide +kernel
theorem dX4_fitsSeen_6 : decode cX4_fitsSeen 6 = .ok (.getfield 221, 3) := by decide +kernel
theorem dX4_fitsSeen_9 : decode cX4_fitsSeen 9 = .ok (.if_icmp .ge 75, 3) := by decide +kernel
theorem dX4_fitsSeen_12 : decode cX4_fitsSeen 12 = .ok (.aload_n 0, 1) := by decide +kernel
theorem dX4_fitsSeen_13 : decode cX4_fitsSeen 13 = .ok (.getfield 54, 3) := by decide +kernel
theorem dX4_fitsSeen_16 : decode cX4_fitsSeen 16 = .ok (.iload 4, 2) := by decide +kernel
theorem dX4_fitsSeen_18 : decode cX4_fitsSeen 18 = .ok (.iaload, 1) := by decide +kernel
theorem dX4_fitsSeen_19 : decode cX4_fitsSeen 19 = .ok (.iload_n 1, 1) := by decide +kernel
theorem dX4_fitsSeen_20 : decode cX4_fitsSeen 20 = .ok (.if_icmp .eq 6, 3) := by decide +kernel
theorem dX4_fitsSeen_23 : decode cX4_fitsSeen 23 = .ok (.goto 55, 3) := by decide +kernel
theorem dX4_fitsSeen_26 : decode cX4_fitsSeen 26 = .ok (.aload_n 0, 1) := by decide +kernel
theorem dX4_fitsSeen_27 : decode cX4_fitsSeen 27 = .ok (.getfield 57, 3) := by decide +kernel
theorem dX4_fitsSeen_30 : decode cX4_fitsSeen 30 = .ok (.iload 4, 2) := by decide +kernel
theorem dX4_fitsSeen_32 : decode cX4_fitsSeen 32 = .ok (.iaload, 1) := by decide +kernel
theorem dX4_fitsSeen_33 : decode cX4_fitsSeen 33 = .ok (.iload_n 2, 1) := by decide +kernel
theorem dX4_fitsSeen_34 : decode cX4_fitsSeen 34 = .ok (.if_icmp .lt 18, 3) := by decide +kernel
theorem dX4_fitsSeen_37 : decode cX4_fitsSeen 37 = .ok (.aload_n 0, 1) := by decide +kernel
theorem dX4_fitsSeen_38 : decode cX4_fitsSeen 38 = .ok (.getfield 57, 3) := by decide +kernel
theorem dX4_fitsSeen_41 : decode cX4_fitsSeen 41 = .ok (.iload 4, 2) := by decide +kernel
theorem dX4_fitsSeen_43 : decode cX4_fitsSeen 43 = .ok (.iaload, 1) := by decide +kernel
theorem dX4_fitsSeen_44 : decode cX4_fitsSeen 44 = .ok (.iload_n 3, 1) := by decide +kernel
theorem dX4_fitsSeen_45 : decode cX4_fitsSeen 45 = .ok (.if_icmp .ge 7, 3) := by decide +kernel
theorem dX4_fitsSeen_48 : decode cX4_fitsSeen 48 = .ok (.iconst 1, 1) := by decide +kernel
theorem dX4_fitsSeen_49 : decode cX4_fitsSeen 49 = .ok (.goto 4, 3) := by decide +kernel
theorem dX4_fitsSeen_52 : decode cX4_fitsSeen 52 = .ok (.iconst 0, 1) := by decide +kernel
theorem dX4_fitsSeen_53 : decode cX4_fitsSeen 53 = .ok (.istore 5, 2) := by decide +kernel
theorem dX4_fitsSeen_55 : decode cX4_fitsSeen 55 = .ok (.iload 5, 2) := by decide +kernel
theorem dX4_fitsSeen_57 : decode cX4_fitsSeen 57 = .ok (.aload_n 0, 1) := by decide +kernel
theorem dX4_fitsSeen_58 : decode cX4_fitsSeen 58 = .ok (.getfield 60, 3) := by decide +kernel
theorem dX4_fitsSeen_61 : decode cX4_fitsSeen 61 = .ok (.iload 4, 2) := by decide +kernel
theorem dX4_fitsSeen_63 : decode cX4_fitsSeen 63 = .ok (.iaload, 1) := by decide +kernel
theorem dX4_fitsSeen_64 : decode cX4_fitsSeen 64 = .ok (.iconst 1, 1) := by decide +kernel
theorem dX4_fitsSeen_65 : decode cX4_fitsSeen 65 = .ok (.if_icmp .ne 7, 3) := by decide +kernel
theorem dX4_fitsSeen_68 : decode cX4_fitsSeen 68 = .ok (.iconst 1, 1) := by decide +kernel
theorem dX4_fitsSeen_69 : decode cX4_fitsSeen 69 = .ok (.goto 4, 3) := by decide +kernel
theorem dX4_fitsSeen_72 : decode cX4_fitsSeen 72 = .ok (.iconst 0, 1) := by decide +kernel
theorem dX4_fitsSeen_73 : decode cX4_fitsSeen 73 = .ok (.if_icmp .eq 5, 3) := by decide +kernel
theorem dX4_fitsSeen_76 : decode cX4_fitsSeen 76 = .ok (.iconst 0, 1) := by decide +kernel
theorem dX4_fitsSeen_77 : decode cX4_fitsSeen 77 = .ok (.ireturn, 1) := by decide +kernel
theorem dX4_fitsSeen_78 : decode cX4_fitsSeen 78 = .ok (.iinc 4 1, 3) := by decide +kernel
theorem dX4_fitsSeen_81 : decode cX4_fitsSeen 81 = .ok (.goto (-78), 3) := by decide +kernel
theorem dX4_fitsSeen_84 : decode cX4_fitsSeen 84 = .ok (.iconst 1, 1) := by decide +kernel
theorem dX4_fitsSeen_85 : decode cX4_fitsSeen 85 = .ok (.ireturn, 1) := by decide +kernel
theorem dX4_cleanAnyway_0 : decode cX4_cleanAnyway 0 = .ok (.iconst 0, 1) := by decide +kernel
theorem dX4_cleanAnyway_1 : decode cX4_cleanAnyway 1 = .ok (.istore_n 1, 1) := by decide +kernel
theorem dX4_cleanAnyway_2 : decode cX4_cleanAnyway 2 = .ok (.iconst 0, 1) := by decide +kernel
theorem dX4_cleanAnyway_3 : decode cX4_cleanAnyway 3 = .ok (.istore_n 2, 1) := by decide +kernel
theorem dX4_cleanAnyway_4 : decode cX4_cleanAnyway 4 = .ok (.iload_n 2, 1) := by decide +kernel
theorem dX4_cleanAnyway_5 : decode cX4_cleanAnyway 5 = .ok (.bipush 12, 2) := by decide +kernel
theorem dX4_cleanAnyway_7 : decode cX4_cleanAnyway 7 = .ok (.if_icmp .ge 41, 3) := by decide +kernel
theorem dX4_cleanAnyway_10 : decode cX4_cleanAnyway 10 = .ok (.aload_n 0, 1) := by decide +kernel
theorem dX4_cleanAnyway_11 : decode cX4_cleanAnyway 11 = .ok (.getfield 10, 3) := by decide +kernel
theorem dX4_cleanAnyway_14 : decode cX4_cleanAnyway 14 = .ok (.aload_n 0, 1) := by decide +kernel
theorem dX4_cleanAnyway_15 : decode cX4_cleanAnyway 15 = .ok (.getfield 29, 3) := by decide +kernel
theorem dX4_cleanAnyway_18 : decode cX4_cleanAnyway 18 = .ok (.getfield 140, 3) := by decide +kernel
theorem dX4_cleanAnyway_21 : decode cX4_cleanAnyway 21 = .ok (.aload_n 0, 1) := by decide +kernel
theorem dX4_cleanAnyway_22 : decode cX4_cleanAnyway 22 = .ok (.getfield 29, 3) := by decide +kernel
theorem dX4_cleanAnyway_25 : decode cX4_cleanAnyway 25 = .ok (.getfield 150, 3) := by decide +kernel
theorem dX4_cleanAnyway_28 : decode cX4_cleanAnyway 28 = .ok (.iload_n 2, 1) := by decide +kernel
theorem dX4_cleanAnyway_29 : decode cX4_cleanAnyway 29 = .ok (.iadd, 1) := by decide +kernel
theorem dX4_cleanAnyway_30 : decode cX4_cleanAnyway 30 = .ok (.invokestatic 143, 3) := by decide +kernel
theorem dX4_cleanAnyway_33 : decode cX4_cleanAnyway 33 = .ok (.ifCond .ne 9, 3) := by decide +kernel
theorem dX4_cleanAnyway_36 : decode cX4_cleanAnyway 36 = .ok (.iload_n 1, 1) := by decide +kernel
theorem dX4_cleanAnyway_37 : decode cX4_cleanAnyway 37 = .ok (.iconst 1, 1) := by decide +kernel
theorem dX4_cleanAnyway_38 : decode cX4_cleanAnyway 38 = .ok (.iload_n 2, 1) := by decide +kernel
theorem dX4_cleanAnyway_39 : decode cX4_cleanAnyway 39 = .ok (.ishl, 1) := by decide +kernel
theorem dX4_cleanAnyway_40 : decode cX4_cleanAnyway 40 = .ok (.ior, 1) := by decide +kernel
theorem dX4_cleanAnyway_41 : decode cX4_cleanAnyway 41 = .ok (.istore_n 1, 1) := by decide +kernel
theorem dX4_cleanAnyway_42 : decode cX4_cleanAnyway 42 = .ok (.iinc 2 1, 3) := by decide +kernel
theorem dX4_cleanAnyway_45 : decode cX4_cleanAnyway 45 = .ok (.goto (-41), 3) := by decide +kernel
theorem dX4_cleanAnyway_48 : decode cX4_cleanAnyway 48 = .ok (.iload_n 1, 1) := by decide +kernel
theorem dX4_cleanAnyway_49 : decode cX4_cleanAnyway 49 = .ok (.ireturn, 1) := by decide +kernel
theorem dX4_cleanBehind_0 : decode cX4_cleanBehind 0 = .ok (.iconst 0, 1) := by decide +kernel
theorem dX4_cleanBehind_1 : decode cX4_cleanBehind 1 = .ok (.istore_n 2, 1) := by decide +kernel
theorem dX4_cleanBehind_2 : decode cX4_cleanBehind 2 = .ok (.iconst 1, 1) := by decide +kernel
theorem dX4_cleanBehind_3 : decode cX4_cleanBehind 3 = .ok (.istore_n 3, 1) := by decide +kernel
theorem dX4_cleanBehind_4 : decode cX4_cleanBehind 4 = .ok (.iload_n 3, 1) := by decide +kernel
theorem dX4_cleanBehind_5 : decode cX4_cleanBehind 5 = .ok (.aload_n 0, 1) := by decide +kernel
theorem dX4_cleanBehind_6 : decode cX4_cleanBehind 6 = .ok (.getfield 10, 3) := by decide +kernel
theorem dX4_cleanBehind_9 : decode cX4_cleanBehind 9 = .ok (.getfield 248, 3) := by decide +kernel
theorem dX4_cleanBehind_12 : decode cX4_cleanBehind 12 = .ok (.if_icmp .gt 15, 3) := by decide +kernel
theorem dX4_cleanBehind_15 : decode cX4_cleanBehind 15 = .ok (.iload_n 2, 1) := by decide +kernel
theorem dX4_cleanBehind_16 : decode cX4_cleanBehind 16 = .ok (.iload_n 1, 1) := by decide +kernel
theorem dX4_cleanBehind_17 : decode cX4_cleanBehind 17 = .ok (.iload_n 3, 1) := by decide +kernel
theorem dX4_cleanBehind_18 : decode cX4_cleanBehind 18 = .ok (.ishl, 1) := by decide +kernel
theorem dX4_cleanBehind_19 : decode cX4_cleanBehind 19 = .ok (.ior, 1) := by decide +kernel
theorem dX4_cleanBehind_20 : decode cX4_cleanBehind 20 = .ok (.istore_n 2, 1) := by decide +kernel
theorem dX4_cleanBehind_21 : decode cX4_cleanBehind 21 = .ok (.iinc 3 1, 3) := by decide +kernel
theorem dX4_cleanBehind_24 : decode cX4_cleanBehind 24 = .ok (.goto (-20), 3) := by decide +kernel
theorem dX4_cleanBehind_27 : decode cX4_cleanBehind 27 = .ok (.iload_n 2, 1) := by decide +kernel
theorem dX4_cleanBehind_28 : decode cX4_cleanBehind 28 = .ok (.ireturn, 1) := by decide +kernel
theorem dX4_power_0 : decode cX4_power 0 = .ok (.lconst 1, 1) := by decide +kernel
theorem dX4_power_1 : decode cX4_power 1 = .ok (.lstore_n 2, 1) := by decide +kernel
theorem dX4_power_2 : decode cX4_power 2 = .ok (.iconst 0, 1) := by decide +kernel
theorem dX4_power_3 : decode cX4_power 3 = .ok (.istore 4, 2) := by decide +kernel
theorem dX4_power_5 : decode cX4_power 5 = .ok (.iload 4, 2) := by decide +kernel
theorem dX4_power_7 : decode cX4_power 7 = .ok (.iload_n 1, 1) := by decide +kernel
theorem dX4_power_8 : decode cX4_power 8 = .ok (.if_icmp .ge 14, 3) := by decide +kernel
theorem dX4_power_11 : decode cX4_power 11 = .ok (.lload_n 2, 1) := by decide +kernel
theorem dX4_power_12 : decode cX4_power 12 = .ok (.iload_n 0, 1) := by decide +kernel
theorem dX4_power_13 : decode cX4_power 13 = .ok (.i2l, 1) := by decide +kernel
theorem dX4_power_14 : decode cX4_power 14 = .ok (.lmul, 1) := by decide +kernel
theorem dX4_power_15 : decode cX4_power 15 = .ok (.lstore_n 2, 1) := by decide +kernel
theorem dX4_power_16 : decode cX4_power 16 = .ok (.iinc 4 1, 3) := by decide +kernel
theorem dX4_power_19 : decode cX4_power 19 = .ok (.goto (-14), 3) := by decide +kernel
theorem dX4_power_22 : decode cX4_power 22 = .ok (.lload_n 2, 1) := by decide +kernel
theorem dX4_power_23 : decode cX4_power 23 = .ok (.lreturn, 1) := by decide +kernel
theorem dX4_commonDivisor_0 : decode cX4_commonDivisor 0 = .ok (.lload_n 0, 1) := by decide +kernel
theorem dX4_commonDivisor_1 : decode cX4_commonDivisor 1 = .ok (.lstore 4, 2) := by decide +kernel
theorem dX4_commonDivisor_3 : decode cX4_commonDivisor 3 = .ok (.lload_n 2, 1) := by decide +kernel
theorem dX4_commonDivisor_4 : decode cX4_commonDivisor 4 = .ok (.lstore 6, 2) := by decide +kernel
theorem dX4_commonDivisor_6 : decode cX4_commonDivisor 6 = .ok (.iconst 0, 1) := by decide +kernel
theorem dX4_commonDivisor_7 : decode cX4_commonDivisor 7 = .ok (.istore 8, 2) := by decide +kernel
theorem dX4_commonDivisor_9 : decode cX4_commonDivisor 9 = .ok (.iload 8, 2) := by decide +kernel
theorem dX4_commonDivisor_11 : decode cX4_commonDivisor 11 = .ok (.bipush 64, 2) := by decide +kernel
theorem dX4_commonDivisor_13 : decode cX4_commonDivisor 13 = .ok (.if_icmp .ge 31, 3) := by decide +kernel
theorem dX4_commonDivisor_16 : decode cX4_commonDivisor 16 = .ok (.lload 6, 2) := by decide +kernel
theorem dX4_commonDivisor_18 : decode cX4_commonDivisor 18 = .ok (.lconst 0, 1) := by decide +kernel
theorem dX4_commonDivisor_19 : decode cX4_commonDivisor 19 = .ok (.lcmp, 1) := by decide +kernel
theorem dX4_commonDivisor_20 : decode cX4_commonDivisor 20 = .ok (.ifCond .eq 24, 3) := by decide +kernel
theorem dX4_commonDivisor_23 : decode cX4_commonDivisor 23 = .ok (.lload 4, 2) := by decide +kernel
theorem dX4_commonDivisor_25 : decode cX4_commonDivisor 25 = .ok (.lload 6, 2) := by decide +kernel
theorem dX4_commonDivisor_27 : decode cX4_commonDivisor 27 = .ok (.lrem, 1) := by decide +kernel
theorem dX4_commonDivisor_28 : decode cX4_commonDivisor 28 = .ok (.lstore 9, 2) := by decide +kernel
theorem dX4_commonDivisor_30 : decode cX4_commonDivisor 30 = .ok (.lload 6, 2) := by decide +kernel
theorem dX4_commonDivisor_32 : decode cX4_commonDivisor 32 = .ok (.lstore 4, 2) := by decide +kernel
theorem dX4_commonDivisor_34 : decode cX4_commonDivisor 34 = .ok (.lload 9, 2) := by decide +kernel
theorem dX4_commonDivisor_36 : decode cX4_commonDivisor 36 = .ok (.lstore 6, 2) := by decide +kernel
theorem dX4_commonDivisor_38 : decode cX4_commonDivisor 38 = .ok (.iinc 8 1, 3) := by decide +kernel
theorem dX4_commonDivisor_41 : decode cX4_commonDivisor 41 = .ok (.goto (-32), 3) := by decide +kernel
theorem dX4_commonDivisor_44 : decode cX4_commonDivisor 44 = .ok (.lload 4, 2) := by decide +kernel
theorem dX4_commonDivisor_46 : decode cX4_commonDivisor 46 = .ok (.lreturn, 1) := by decide +kernel
theorem dX5_init_0 : decode cX5_init 0 = .ok (.aload_n 0, 1) := by decide +kernel
theorem dX5_init_1 : decode cX5_init 1 = .ok (.invokespecial 1, 3) := by decide +kernel
theorem dX5_init_4 : decode cX5_init 4 = .ok (.aload_n 0, 1) := by decide +kernel
theorem dX5_init_5 : decode cX5_init 5 = .ok (.bipush 32, 2) := by decide +kernel
theorem dX5_init_7 : decode cX5_init 7 = .ok (.newarray .int, 2) := by decide +kernel
theorem dX5_init_9 : decode cX5_init 9 = .ok (.putfield 7, 3) := by decide +kernel
theorem dX5_init_12 : decode cX5_init 12 = .ok (.aload_n 0, 1) := by decide +kernel
theorem dX5_init_13 : decode cX5_init 13 = .ok (.iconst 3, 1) := by decide +kernel
theorem dX5_init_14 : decode cX5_init 14 = .ok (.newarray .int, 2) := by decide +kernel
theorem dX5_init_16 : decode cX5_init 16 = .ok (.putfield 13, 3) := by decide +kernel
theorem dX5_init_19 : decode cX5_init 19 = .ok (.aload_n 0, 1) := by decide +kernel
theorem dX5_init_20 : decode cX5_init 20 = .ok (.iconst 3, 1) := by decide +kernel
theorem dX5_init_21 : decode cX5_init 21 = .ok (.putfield 16, 3) := by decide +kernel
theorem dX5_init_24 : decode cX5_init 24 = .ok (.aload_n 0, 1) := by decide +kernel
theorem dX5_init_25 : decode cX5_init 25 = .ok (.iconst 2, 1) := by decide +kernel
theorem dX5_init_26 : decode cX5_init 26 = .ok (.putfield 20, 3) := by decide +kernel
theorem dX5_init_29 : decode cX5_init 29 = .ok (.aload_n 0, 1) := by decide +kernel
theorem dX5_init_30 : decode cX5_init 30 = .ok (.bipush 12, 2) := by decide +kernel
theorem dX5_init_32 : decode cX5_init 32 = .ok (.putfield 23, 3) := by decide +kernel
theorem dX5_init_35 : decode cX5_init 35 = .ok (.aload_n 0, 1) := by decide +kernel
theorem dX5_init_36 : decode cX5_init 36 = .ok (.sipush 160, 3) := by decide +kernel
theorem dX5_init_39 : decode cX5_init 39 = .ok (.newarray .int, 2) := by decide +kernel
theorem dX5_init_41 : decode cX5_init 41 = .ok (.putfield 26, 3) := by decide +kernel
theorem dX5_init_44 : decode cX5_init 44 = .ok (.aload_n 0, 1) := by decide +kernel
theorem dX5_init_45 : decode cX5_init 45 = .ok (.bipush 70, 2) := by decide +kernel
theorem dX5_init_47 : decode cX5_init 47 = .ok (.newarray .int, 2) := by decide +kernel
theorem dX5_init_49 : decode cX5_init 49 = .ok (.putfield 29, 3) := by decide +kernel
theorem dX5_init_52 : decode cX5_init 52 = .ok (.aload_n 0, 1) := by decide +kernel
theorem dX5_init_53 : decode cX5_init 53 = .ok (.bipush 12, 2) := by decide +kernel
theorem dX5_init_55 : decode cX5_init 55 = .ok (.newarray .int, 2) := by decide +kernel
theorem dX5_init_57 : decode cX5_init 57 = .ok (.putfield 32, 3) := by decide +kernel
theorem dX5_init_60 : decode cX5_init 60 = .ok (.aload_n 0, 1) := by decide +kernel
theorem dX5_init_61 : decode cX5_init 61 = .ok (.bipush 12, 2) := by decide +kernel
theorem dX5_init_63 : decode cX5_init 63 = .ok (.newarray .int, 2) := by decide +kernel
theorem dX5_init_65 : decode cX5_init 65 = .ok (.putfield 35, 3) := by decide +kernel
theorem dX5_init_68 : decode cX5_init 68 = .ok (.aload_n 0, 1) := by decide +kernel
theorem dX5_init_69 : decode cX5_init 69 = .ok (.bipush 24, 2) := by decide +kernel
theorem dX5_init_71 : decode cX5_init 71 = .ok (.newarray .int, 2) := by decide +kernel
theorem dX5_init_73 : decode cX5_init 73 = .ok (.putfield 38, 3) := by decide +kernel
theorem dX5_init_76 : decode cX5_init 76 = .ok (.aload_n 0, 1) := by decide +kernel
theorem dX5_init_77 : decode cX5_init 77 = .ok (.iconst 2, 1) := by decide +kernel
theorem dX5_init_78 : decode cX5_init 78 = .ok (.newarray .boolean, 2) := by decide +kernel
theorem dX5_init_80 : decode cX5_init 80 = .ok (.putfield 41, 3) := by decide +kernel
theorem dX5_init_83 : decode cX5_init 83 = .ok (.aload_n 0, 1) := by decide +kernel
theorem dX5_init_84 : decode cX5_init 84 = .ok (.bipush 96, 2) := by decide +kernel
theorem dX5_init_86 : decode cX5_init 86 = .ok (.newarray .int, 2) := by decide +kernel
theorem dX5_init_88 : decode cX5_init 88 = .ok (.putfield 45, 3) := by decide +kernel
theorem dX5_init_91 : decode cX5_init 91 = .ok (.aload_n 0, 1) := by decide +kernel
theorem dX5_init_92 : decode cX5_init 92 = .ok (.bipush 8, 2) := by decide +kernel
theorem dX5_init_94 : decode cX5_init 94 = .ok (.newarray .int, 2) := by decide +kernel
theorem dX5_init_96 : decode cX5_init 96 = .ok (.putfield 48, 3) := by decide +kernel
theorem dX5_init_99 : decode cX5_init 99 = .ok (.aload_n 0, 1) := by decide +kernel
theorem dX5_init_100 : decode cX5_init 100 = .ok (.iconst 4, 1) := by decide +kernel
theorem dX5_init_101 : decode cX5_init 101 = .ok (.newarray .int, 2) := by decide +kernel
theorem dX5_init_103 : decode cX5_init 103 = .ok (.putfield 51, 3) := by decide +kernel
theorem dX5_init_106 : decode cX5_init 106 = .ok (.aload_n 0, 1) := by decide +kernel
theorem dX5_init_107 : decode cX5_init 107 = .ok (.bipush 18, 2) := by decide +kernel
theorem dX5_init_109 : decode cX5_init 109 = .ok (.newarray .int, 2) := by decide +kernel
theorem dX5_init_111 : decode cX5_init 111 = .ok (.putfield 54, 3) := by decide +kernel
theorem dX5_init_114 : decode cX5_init 114 = .ok (.aload_n 0, 1) := by decide +kernel
theorem dX5_init_115 : decode cX5_init 115 = .ok (.sipush 32000, 3) := by decide +kernel
theorem dX5_init_118 : decode cX5_init 118 = .ok (.newarray .int, 2) := by decide +kernel
theorem dX5_init_120 : decode cX5_init 120 = .ok (.putfield 57, 3) := by decide +kernel
theorem dX5_init_123 : decode cX5_init 123 = .ok (.aload_n 0, 1) := by decide +kernel
theorem dX5_init_124 : decode cX5_init 124 = .ok (.sipush 32000, 3) := by decide +kernel
theorem dX5_init_127 : decode cX5_init 127 = .ok (.newarray .int, 2) := by decide +kernel
theorem dX5_init_129 : decode cX5_init 129 = .ok (.putfield 60, 3) := by decide +kernel
theorem dX5_init_132 : decode cX5_init 132 = .ok (.aload_n 0, 1) := by decide +kernel
theorem dX5_init_133 : decode cX5_init 133 = .ok (.iconst 3, 1) := by decide +kernel
theorem dX5_init_134 : decode cX5_init 134 = .ok (.newarray .int, 2) := by decide +kernel
theorem dX5_init_136 : decode cX5_init 136 = .ok (.putfield 63, 3) := by decide +kernel
theorem dX5_init_139 : decode cX5_init 139 = .ok (.aload_n 0, 1) := by decide +kernel
theorem dX5_init_140 : decode cX5_init 140 = .ok (.invokevirtual 66, 3) := by decide +kernel
theorem dX5_init_143 : decode cX5_init 143 = .ok (.aload_n 0, 1) := by decide +kernel
theorem dX5_init_144 : decode cX5_init 144 = .ok (.invokevirtual 69, 3) := by decide +kernel
theorem dX5_init_147 : decode cX5_init 147 = .ok (.return_, 1) := by decide +kernel
theorem dX5_in_0 : decode cX5_in 0 = .ok (.iload_n 0, 1) := by decide +kernel
theorem dX5_in_1 : decode cX5_in 1 = .ok (.iload_n 1, 1) := by decide +kernel
theorem dX5_in_2 : decode cX5_in 2 = .ok (.if_icmp .lt 12, 3) := by decide +kernel
theorem dX5_in_5 : decode cX5_in 5 = .ok (.iload_n 0, 1) := by decide +kernel
theorem dX5_in_6 : decode cX5_in 6 = .ok (.iload_n 2, 1) := by decide +kernel
theorem dX5_in_7 : decode cX5_in 7 = .ok (.if_icmp .gt 7, 3) := by decide +kernel
theorem dX5_in_10 : decode cX5_in 10 = .ok (.iconst 1, 1) := by decide +kernel
theorem dX5_in_11 : decode cX5_in 11 = .ok (.goto 4, 3) := by decide +kernel
theorem dX5_in_14 : decode cX5_in 14 = .ok (.iconst 0, 1) := by decide +kernel
theorem dX5_in_15 : decode cX5_in 15 = .ok (.ireturn, 1) := by decide +kernel
theorem dX5_has_0 : decode cX5_has 0 = .ok (.iload_n 0, 1) := by decide +kernel
theorem dX5_has_1 : decode cX5_has 1 = .ok (.iload_n 1, 1) := by decide +kernel
theorem dX5_has_2 : decode cX5_has 2 = .ok (.ishr, 1) := by decide +kernel
theorem dX5_has_3 : decode cX5_has 3 = .ok (.iconst 1, 1) := by decide +kernel
theorem dX5_has_4 : decode cX5_has 4 = .ok (.iand, 1) := by decide +kernel
theorem dX5_has_5 : decode cX5_has 5 = .ok (.iconst 1, 1) := by decide +kernel
theorem dX5_has_6 : decode cX5_has 6 = .ok (.if_icmp .ne 7, 3) := by decide +kernel
theorem dX5_has_9 : decode cX5_has 9 = .ok (.iconst 1, 1) := by decide +kernel
theorem dX5_has_10 : decode cX5_has 10 = .ok (.goto 4, 3) := by decide +kernel
theorem dX5_has_13 : decode cX5_has 13 = .ok (.iconst 0, 1) := by decide +kernel
theorem dX5_has_14 : decode cX5_has 14 = .ok (.ireturn, 1) := by decide +kernel
theorem dX5_bits_0 : decode cX5_bits 0 = .ok (.iconst 0, 1) := by decide +kernel
theorem dX5_bits_1 : decode cX5_bits 1 = .ok (.istore_n 1, 1) := by decide +kernel
theorem dX5_bits_2 : decode cX5_bits 2 = .ok (.iconst 0, 1) := by decide +kernel
theorem dX5_bits_3 : decode cX5_bits 3 = .ok (.istore_n 2, 1) := by decide +kernel
theorem dX5_bits_4 : decode cX5_bits 4 = .ok (.iload_n 2, 1) := by decide +kernel
theorem dX5_bits_5 : decode cX5_bits 5 = .ok (.bipush 24, 2) := by decide +kernel
theorem dX5_bits_7 : decode cX5_bits 7 = .ok (.if_icmp .ge 17, 3) := by decide +kernel
theorem dX5_bits_10 : decode cX5_bits 10 = .ok (.iload_n 1, 1) := by decide +kernel
theorem dX5_bits_11 : decode cX5_bits 11 = .ok (.iload_n 0, 1) := by decide +kernel
theorem dX5_bits_12 : decode cX5_bits 12 = .ok (.iload_n 2, 1) := by decide +kernel
theorem dX5_bits_13 : decode cX5_bits 13 = .ok (.ishr, 1) := by decide +kernel
theorem dX5_bits_14 : decode cX5_bits 14 = .ok (.iconst 1, 1) := by decide +kernel
theorem dX5_bits_15 : decode cX5_bits 15 = .ok (.iand, 1) := by decide +kernel
theorem dX5_bits_16 : decode cX5_bits 16 = .ok (.iadd, 1) := by decide +kernel
theorem dX5_bits_17 : decode cX5_bits 17 = .ok (.istore_n 1, 1) := by decide +kernel
theorem dX5_bits_18 : decode cX5_bits 18 = .ok (.iinc 2 1, 3) := by decide +kernel
theorem dX5_bits_21 : decode cX5_bits 21 = .ok (.goto (-17), 3) := by decide +kernel
theorem dX5_bits_24 : decode cX5_bits 24 = .ok (.iload_n 1, 1) := by decide +kernel
theorem dX5_bits_25 : decode cX5_bits 25 = .ok (.ireturn, 1) := by decide +kernel
theorem dX5_plain_0 : decode cX5_plain 0 = .ok (.aload_n 0, 1) := by decide +kernel
theorem dX5_plain_1 : decode cX5_plain 1 = .ok (.iconst 0, 1) := by decide +kernel
theorem dX5_plain_2 : decode cX5_plain 2 = .ok (.putfield 72, 3) := by decide +kernel
theorem dX5_plain_5 : decode cX5_plain 5 = .ok (.aload_n 0, 1) := by decide +kernel
theorem dX5_plain_6 : decode cX5_plain 6 = .ok (.getfield 13, 3) := by decide +kernel
theorem dX5_plain_9 : decode cX5_plain 9 = .ok (.iconst 0, 1) := by decide +kernel
theorem dX5_plain_10 : decode cX5_plain 10 = .ok (.bipush 99, 2) := by decide +kernel
theorem dX5_plain_12 : decode cX5_plain 12 = .ok (.iastore, 1) := by decide +kernel
theorem dX5_plain_13 : decode cX5_plain 13 = .ok (.aload_n 0, 1) := by decide +kernel
theorem dX5_plain_14 : decode cX5_plain 14 = .ok (.getfield 13, 3) := by decide +kernel
theorem dX5_plain_17 : decode cX5_plain 17 = .ok (.iconst 1, 1) := by decide +kernel
theorem dX5_plain_18 : decode cX5_plain 18 = .ok (.bipush 99, 2) := by decide +kernel
theorem dX5_plain_20 : decode cX5_plain 20 = .ok (.iastore, 1) := by decide +kernel
theorem dX5_plain_21 : decode cX5_plain 21 = .ok (.aload_n 0, 1) := by decide +kernel
theorem dX5_plain_22 : decode cX5_plain 22 = .ok (.getfield 13, 3) := by decide +kernel
theorem dX5_plain_25 : decode cX5_plain 25 = .ok (.iconst 2, 1) := by decide +kernel
theorem dX5_plain_26 : decode cX5_plain 26 = .ok (.bipush 99, 2) := by decide +kernel
theorem dX5_plain_28 : decode cX5_plain 28 = .ok (.iastore, 1) := by decide +kernel
theorem dX5_plain_29 : decode cX5_plain 29 = .ok (.aload_n 0, 1) := by decide +kernel
theorem dX5_plain_30 : decode cX5_plain 30 = .ok (.iconst 3, 1) := by decide +kernel
theorem dX5_plain_31 : decode cX5_plain 31 = .ok (.putfield 16, 3) := by decide +kernel
theorem dX5_plain_34 : decode cX5_plain 34 = .ok (.aload_n 0, 1) := by decide +kernel
theorem dX5_plain_35 : decode cX5_plain 35 = .ok (.iconst 2, 1) := by decide +kernel
theorem dX5_plain_36 : decode cX5_plain 36 = .ok (.putfield 20, 3) := by decide +kernel
theorem dX5_plain_39 : decode cX5_plain 39 = .ok (.aload_n 0, 1) := by decide +kernel
theorem dX5_plain_40 : decode cX5_plain 40 = .ok (.bipush 12, 2) := by decide +kernel
theorem dX5_plain_42 : decode cX5_plain 42 = .ok (.putfield 23, 3) := by decide +kernel
theorem dX5_plain_45 : decode cX5_plain 45 = .ok (.return_, 1) := by decide +kernel
theorem dX5_begin_0 : decode cX5_begin 0 = .ok (.iconst 0, 1) := by decide +kernel
theorem dX5_begin_1 : decode cX5_begin 1 = .ok (.istore_n 1, 1) := by decide +kernel
theorem dX5_begin_2 : decode cX5_begin 2 = .ok (.iload_n 1, 1) := by decide +kernel
theorem dX5_begin_3 : decode cX5_begin 3 = .ok (.bipush 12, 2) := by decide +kernel
theorem dX5_begin_5 : decode cX5_begin 5 = .ok (.if_icmp .ge 16, 3) := by decide +kernel
theorem dX5_begin_8 : decode cX5_begin 8 = .ok (.aload_n 0, 1) := by decide +kernel
theorem dX5_begin_9 : decode cX5_begin 9 = .ok (.getfield 32, 3) := by decide +kernel
theorem dX5_begin_12 : decode cX5_begin 12 = .ok (.iload_n 1, 1) := by decide +kernel
theorem dX5_begin_13 : decode cX5_begin 13 = .ok (.iconst 0, 1) := by decide +kernel
theorem dX5_begin_14 : decode cX5_begin 14 = .ok (.iastore, 1) := by decide +kernel
theorem dX5_begin_15 : decode cX5_begin 15 = .ok (.iinc 1 1, 3) := by decide +kernel
theorem dX5_begin_18 : decode cX5_begin 18 = .ok (.goto (-16), 3) := by decide +kernel
theorem dX5_begin_21 : decode cX5_begin 21 = .ok (.aload_n 0, 1) := by decide +kernel
theorem dX5_begin_22 : decode cX5_begin 22 = .ok (.getfield 41, 3) := by decide +kernel
theorem dX5_begin_25 : decode cX5_begin 25 = .ok (.iconst 0, 1) := by decide +kernel
theorem dX5_begin_26 : decode cX5_begin 26 = .ok (.iconst 0, 1) := by decide +kernel
theorem dX5_begin_27 : decode cX5_begin 27 = .ok (.bastore, 1) := by decide +kernel
theorem dX5_begin_28 : decode cX5_begin 28 = .ok (.aload_n 0, 1) := by decide +kernel
theorem dX5_begin_29 : decode cX5_begin 29 = .ok (.getfield 41, 3) := by decide +kernel
theorem dX5_begin_32 : decode cX5_begin 32 = .ok (.iconst 1, 1) := by decide +kernel
theorem dX5_begin_33 : decode cX5_begin 33 = .ok (.iconst 0, 1) := by decide +kernel
theorem dX5_begin_34 : decode cX5_begin 34 = .ok (.bastore, 1) := by decide +kernel
theorem dX5_begin_35 : decode cX5_begin 35 = .ok (.aload_n 0, 1) := by decide +kernel
theorem dX5_begin_36 : decode cX5_begin 36 = .ok (.iconst 0, 1) := by decide +kernel
theorem dX5_begin_37 : decode cX5_begin 37 = .ok (.putfield 75, 3) := by decide +kernel
theorem dX5_begin_40 : decode cX5_begin 40 = .ok (.aload_n 0, 1) := by decide +kernel
theorem dX5_begin_41 : decode cX5_begin 41 = .ok (.iconst 0, 1) := by decide +kernel
theorem dX5_begin_42 : decode cX5_begin 42 = .ok (.putfield 78, 3) := by decide +kernel
theorem dX5_begin_45 : decode cX5_begin 45 = .ok (.aload_n 0, 1) := by decide +kernel
theorem dX5_begin_46 : decode cX5_begin 46 = .ok (.iconst 0, 1) := by decide +kernel
theorem dX5_begin_47 : decode cX5_begin 47 = .ok (.putfield 81, 3) := by decide +kernel
theorem dX5_begin_50 : decode cX5_begin 50 = .ok (.aload_n 0, 1) := by decide +kernel
theorem dX5_begin_51 : decode cX5_begin 51 = .ok (.iconst 0, 1) := by decide +kernel
theorem dX5_begin_52 : decode cX5_begin 52 = .ok (.putfield 84, 3) := by decide +kernel
theorem dX5_begin_55 : decode cX5_begin 55 = .ok (.return_, 1) := by decide +kernel
theorem dX5_kindOf_0 : decode cX5_kindOf 0 = .ok (.aload_n 0, 1) := by decide +kernel
theorem dX5_kindOf_1 : decode cX5_kindOf 1 = .ok (.getfield 7, 3) := by decide +kernel
theorem dX5_kindOf_4 : decode cX5_kindOf 4 = .ok (.iconst 4, 1) := by decide +kernel
theorem dX5_kindOf_5 : decode cX5_kindOf 5 = .ok (.iload_n 1, 1) := by decide +kernel
theorem dX5_kindOf_6 : decode cX5_kindOf 6 = .ok (.imul, 1) := by decide +kernel
theorem dX5_kindOf_7 : decode cX5_kindOf 7 = .ok (.iaload, 1) := by decide +kernel
theorem dX5_kindOf_8 : decode cX5_kindOf 8 = .ok (.ireturn, 1) := by decide +kernel
theorem dX5_floorOf_0 : decode cX5_floorOf 0 = .ok (.aload_n 0, 1) := by decide +kernel
theorem dX5_floorOf_1 : decode cX5_floorOf 1 = .ok (.getfield 7, 3) := by decide +kernel
theorem dX5_floorOf_4 : decode cX5_floorOf 4 = .ok (.iconst 4, 1) := by decide +kernel
theorem dX5_floorOf_5 : decode cX5_floorOf 5 = .ok (.iload_n 1, 1) := by decide +kernel
theorem dX5_floorOf_6 : decode cX5_floorOf 6 = .ok (.imul, 1) := by decide +kernel
theorem dX5_floorOf_7 : decode cX5_floorOf 7 = .ok (.iconst 3, 1) := by decide +kernel
theorem dX5_floorOf_8 : decode cX5_floorOf 8 = .ok (.iadd, 1) := by decide +kernel
theorem dX5_floorOf_9 : decode cX5_floorOf 9 = .ok (.iaload, 1) := by decide +kernel
theorem dX5_floorOf_10 : decode cX5_floorOf 10 = .ok (.ireturn, 1) := by decide +kernel
theorem dX5_isThing_0 : decode cX5_isThing 0 = .ok (.iload_n 1, 1) := by decide +kernel
theorem dX5_isThing_1 : decode cX5_isThing 1 = .ok (.iconst 0, 1) := by decide +kernel
theorem dX5_isThing_2 : decode cX5_isThing 2 = .ok (.aload_n 0, 1) := by decide +kernel
theorem dX5_isThing_3 : decode cX5_isThing 3 = .ok (.getfield 72, 3) := by decide +kernel
theorem dX5_isThing_6 : decode cX5_isThing 6 = .ok (.iconst 1, 1) := by decide +kernel
theorem dX5_isThing_7 : decode cX5_isThing 7 = .ok (.isub, 1) := by decide +kernel
theorem dX5_isThing_8 : decode cX5_isThing 8 = .ok (.invokestatic 87, 3) := by decide +kernel
theorem dX5_isThing_11 : decode cX5_isThing 11 = .ok (.ireturn, 1) := by decide +kernel
theorem dX5_write_0 : decode cX5_write 0 = .ok (.iload_n 1, 1) := by decide +kernel
theorem dX5_write_1 : decode cX5_write 1 = .ok (.iconst 0, 1) := by decide +kernel
theorem dX5_write_2 : decode cX5_write 2 = .ok (.sipush 255, 3) := by decide +kernel
theorem dX5_write_5 : decode cX5_write 5 = .ok (.invokestatic 87, 3) := by decide +kernel
theorem dX5_write_8 : decode cX5_write 8 = .ok (.ifCond .ne 6, 3) := by decide +kernel
theorem dX5_write_11 : decode cX5_write 11 = .ok (.bipush (-3), 2) := by decide +kernel
theorem dX5_write_13 : decode cX5_write 13 = .ok (.ireturn, 1) := by decide +kernel
theorem dX5_write_14 : decode cX5_write 14 = .ok (.aload_n 0, 1) := by decide +kernel
theorem dX5_write_15 : decode cX5_write 15 = .ok (.getfield 91, 3) := by decide +kernel
theorem dX5_write_18 : decode cX5_write 18 = .ok (.sipush 160, 3) := by decide +kernel
theorem dX5_write_21 : decode cX5_write 21 = .ok (.if_icmp .ne 6, 3) := by decide +kernel
theorem dX5_write_24 : decode cX5_write 24 = .ok (.bipush (-5), 2) := by decide +kernel
theorem dX5_write_26 : decode cX5_write 26 = .ok (.ireturn, 1) := by decide +kernel
theorem dX5_write_27 : decode cX5_write 27 = .ok (.aload_n 0, 1) := by decide +kernel
theorem dX5_write_28 : decode cX5_write 28 = .ok (.getfield 26, 3) := by decide +kernel
theorem dX5_write_31 : decode cX5_write 31 = .ok (.aload_n 0, 1) := by decide +kernel
theorem dX5_write_32 : decode cX5_write 32 = .ok (.getfield 91, 3) := by decide +kernel
theorem dX5_write_35 : decode cX5_write 35 = .ok (.iload_n 1, 1) := by decide +kernel
theorem dX5_write_36 : decode cX5_write 36 = .ok (.iastore, 1) := by decide +kernel
theorem dX5_write_37 : decode cX5_write 37 = .ok (.aload_n 0, 1) := by decide +kernel
theorem dX5_write_38 : decode cX5_write 38 = .ok (.dup, 1) := by decide +kernel
theorem dX5_write_39 : decode cX5_write 39 = .ok (.getfield 91, 3) := by decide +kernel
theorem dX5_write_42 : decode cX5_write 42 = .ok (.iconst 1, 1) := by decide +kernel
theorem dX5_write_43 : decode cX5_write 43 = .ok (.iadd, 1) := by decide +kernel
theorem dX5_write_44 : decode cX5_write 44 = .ok (.putfield 91, 3) := by decide +kernel
theorem dX5_write_47 : decode cX5_write 47 = .ok (.aload_n 0, 1) := by decide +kernel
theorem dX5_write_48 : decode cX5_write 48 = .ok (.getfield 91, 3) := by decide +kernel
theorem dX5_write_51 : decode cX5_write 51 = .ok (.ireturn, 1) := by decide +kernel
theorem dX5_erase_0 : decode cX5_erase 0 = .ok (.aload_n 0, 1) := by decide +kernel
theorem dX5_erase_1 : decode cX5_erase 1 = .ok (.getfield 91, 3) := by decide +kernel
theorem dX5_erase_4 : decode cX5_erase 4 = .ok (.istore_n 1, 1) := by decide +kernel
theorem dX5_erase_5 : decode cX5_erase 5 = .ok (.aload_n 0, 1) := by decide +kernel
theorem dX5_erase_6 : decode cX5_erase 6 = .ok (.iconst 0, 1) := by decide +kernel
theorem dX5_erase_7 : decode cX5_erase 7 = .ok (.putfield 91, 3) := by decide +kernel
theorem dX5_erase_10 : decode cX5_erase 10 = .ok (.iload_n 1, 1) := by decide +kernel
theorem dX5_erase_11 : decode cX5_erase 11 = .ok (.ireturn, 1) := by decide +kernel
theorem dX5_nextToken_0 : decode cX5_nextToken 0 = .ok (.aload_n 0, 1) := by decide +kernel
theorem dX5_nextToken_1 : decode cX5_nextToken 1 = .ok (.getfield 94, 3) := by decide +kernel
theorem dX5_nextToken_4 : decode cX5_nextToken 4 = .ok (.aload_n 0, 1) := by decide +kernel
theorem dX5_nextToken_5 : decode cX5_nextToken 5 = .ok (.getfield 91, 3) := by decide +kernel
theorem dX5_nextToken_8 : decode cX5_nextToken 8 = .ok (.if_icmp .ge 30, 3) := by decide +kernel
theorem dX5_nextToken_11 : decode cX5_nextToken 11 = .ok (.aload_n 0, 1) := by decide +kernel
theorem dX5_nextToken_12 : decode cX5_nextToken 12 = .ok (.getfield 26, 3) := by decide +kernel
theorem dX5_nextToken_15 : decode cX5_nextToken 15 = .ok (.aload_n 0, 1) := by decide +kernel
theorem dX5_nextToken_16 : decode cX5_nextToken 16 = .ok (.getfield 94, 3) := by decide +kernel
theorem dX5_nextToken_19 : decode cX5_nextToken 19 = .ok (.iaload, 1) := by decide +kernel
theorem dX5_nextToken_20 : decode cX5_nextToken 20 = .ok (.bipush 32, 2) := by decide +kernel
theorem dX5_nextToken_22 : decode cX5_nextToken 22 = .ok (.if_icmp .ne 16, 3) := by decide +kernel
theorem dX5_nextToken_25 : decode cX5_nextToken 25 = .ok (.aload_n 0, 1) := by decide +kernel
theorem dX5_nextToken_26 : decode cX5_nextToken 26 = .ok (.dup, 1) := by decide +kernel
theorem dX5_nextToken_27 : decode cX5_nextToken 27 = .ok (.getfield 94, 3) := by decide +kernel
theorem dX5_nextToken_30 : decode cX5_nextToken 30 = .ok (.iconst 1, 1) := by decide +kernel
theorem dX5_nextToken_31 : decode cX5_nextToken 31 = .ok (.iadd, 1) := by decide +kernel
theorem dX5_nextToken_32 : decode cX5_nextToken 32 = .ok (.putfield 94, 3) := by decide +kernel
theorem dX5_nextToken_35 : decode cX5_nextToken 35 = .ok (.goto (-35), 3) := by decide +kernel
theorem dX5_nextToken_38 : decode cX5_nextToken 38 = .ok (.aload_n 0, 1) := by decide +kernel
theorem dX5_nextToken_39 : decode cX5_nextToken 39 = .ok (.aload_n 0, 1) := by decide +kernel
theorem dX5_nextToken_40 : decode cX5_nextToken 40 = .ok (.getfield 94, 3) := by decide +kernel
theorem dX5_nextToken_43 : decode cX5_nextToken 43 = .ok (.putfield 97, 3) := by decide +kernel
theorem dX5_nextToken_46 : decode cX5_nextToken 46 = .ok (.aload_n 0, 1) := by decide +kernel
theorem dX5_nextToken_47 : decode cX5_nextToken 47 = .ok (.iconst 0, 1) := by decide +kernel
theorem dX5_nextToken_48 : decode cX5_nextToken 48 = .ok (.putfield 100, 3) := by decide +kernel
theorem dX5_nextToken_51 : decode cX5_nextToken 51 = .ok (.aload_n 0, 1) := by decide +kernel
theorem dX5_nextToken_52 : decode cX5_nextToken 52 = .ok (.iconst 0, 1) := by decide +kernel
theorem dX5_nextToken_53 : decode cX5_nextToken 53 = .ok (.putfield 103, 3) := by decide +kernel
theorem dX5_nextToken_56 : decode cX5_nextToken 56 = .ok (.aload_n 0, 1) := by decide +kernel
theorem dX5_nextToken_57 : decode cX5_nextToken 57 = .ok (.getfield 94, 3) := by decide +kernel
theorem dX5_nextToken_60 : decode cX5_nextToken 60 = .ok (.aload_n 0, 1) := by decide +kernel
theorem dX5_nextToken_61 : decode cX5_nextToken 61 = .ok (.getfield 91, 3) := by decide +kernel
theorem dX5_nextToken_64 : decode cX5_nextToken 64 = .ok (.if_icmp .ne 13, 3) := by decide +kernel
theorem dX5_nextToken_67 : decode cX5_nextToken 67 = .ok (.aload_n 0, 1) := by decide +kernel
theorem dX5_nextToken_68 : decode cX5_nextToken 68 = .ok (.ldc2_w 106, 3) := by decide +kernel
theorem dX5_nextToken_71 : decode cX5_nextToken 71 = .ok (.putfield 108, 3) := by decide +kernel
theorem dX5_nextToken_74 : decode cX5_nextToken 74 = .ok (.goto 320, 3) := by decide +kernel
theorem dX5_nextToken_77 : decode cX5_nextToken 77 = .ok (.aload_n 0, 1) := by decide +kernel
theorem dX5_nextToken_78 : decode cX5_nextToken 78 = .ok (.getfield 26, 3) := by decide +kernel
theorem dX5_nextToken_81 : decode cX5_nextToken 81 = .ok (.aload_n 0, 1) := by decide +kernel
theorem dX5_nextToken_82 : decode cX5_nextToken 82 = .ok (.getfield 94, 3) := by decide +kernel
theorem dX5_nextToken_85 : decode cX5_nextToken 85 = .ok (.iaload, 1) := by decide +kernel
theorem dX5_nextToken_86 : decode cX5_nextToken 86 = .ok (.bipush 97, 2) := by decide +kernel
theorem dX5_nextToken_88 : decode cX5_nextToken 88 = .ok (.bipush 122, 2) := by decide +kernel
theorem dX5_nextToken_90 : decode cX5_nextToken 90 = .ok (.invokestatic 87, 3) := by decide +kernel
theorem dX5_nextToken_93 : decode cX5_nextToken 93 = .ok (.ifCond .eq 129, 3) := by decide +kernel
theorem dX5_nextToken_96 : decode cX5_nextToken 96 = .ok (.aload_n 0, 1) := by decide +kernel
theorem dX5_nextToken_97 : decode cX5_nextToken 97 = .ok (.lconst 0, 1) := by decide +kernel
theorem dX5_nextToken_98 : decode cX5_nextToken 98 = .ok (.putfield 108, 3) := by decide +kernel
theorem dX5_nextToken_101 : decode cX5_nextToken 101 = .ok (.aload_n 0, 1) := by decide +kernel
theorem dX5_nextToken_102 : decode cX5_nextToken 102 = .ok (.getfield 94, 3) := by decide +kernel
theorem dX5_nextToken_105 : decode cX5_nextToken 105 = .ok (.aload_n 0, 1) := by decide +kernel
theorem dX5_nextToken_106 : decode cX5_nextToken 106 = .ok (.getfield 91, 3) := by decide +kernel
theorem dX5_nextToken_109 : decode cX5_nextToken 109 = .ok (.if_icmp .ge 82, 3) := by decide +kernel
theorem dX5_nextToken_112 : decode cX5_nextToken 112 = .ok (.aload_n 0, 1) := by decide +kernel
theorem dX5_nextToken_113 : decode cX5_nextToken 113 = .ok (.getfield 26, 3) := by decide +kernel
theorem dX5_nextToken_116 : decode cX5_nextToken 116 = .ok (.aload_n 0, 1) := by decide +kernel
theorem dX5_nextToken_117 : decode cX5_nextToken 117 = .ok (.getfield 94, 3) := by decide +kernel
theorem dX5_nextToken_120 : decode cX5_nextToken 120 = .ok (.iaload, 1) := by decide +kernel
theorem dX5_nextToken_121 : decode cX5_nextToken 121 = .ok (.bipush 97, 2) := by decide +kernel
theorem dX5_nextToken_123 : decode cX5_nextToken 123 = .ok (.bipush 122, 2) := by decide +kernel
theorem dX5_nextToken_125 : decode cX5_nextToken 125 = .ok (.invokestatic 87, 3) := by decide +kernel
theorem dX5_nextToken_128 : decode cX5_nextToken 128 = .ok (.ifCond .eq 63, 3) := by decide +kernel
theorem dX5_nextToken_131 : decode cX5_nextToken 131 = .ok (.aload_n 0, 1) := by decide +kernel
theorem dX5_nextToken_132 : decode cX5_nextToken 132 = .ok (.aload_n 0, 1) := by decide +kernel
theorem dX5_nextToken_133 : decode cX5_nextToken 133 = .ok (.getfield 94, 3) := by decide +kernel
theorem dX5_nextToken_136 : decode cX5_nextToken 136 = .ok (.aload_n 0, 1) := by decide +kernel
theorem dX5_nextToken_137 : decode cX5_nextToken 137 = .ok (.getfield 97, 3) := by decide +kernel
theorem dX5_nextToken_140 : decode cX5_nextToken 140 = .ok (.isub, 1) := by decide +kernel
theorem dX5_nextToken_141 : decode cX5_nextToken 141 = .ok (.bipush 9, 2) := by decide +kernel
theorem dX5_nextToken_143 : decode cX5_nextToken 143 = .ok (.if_icmp .ge 29, 3) := by decide +kernel
theorem dX5_nextToken_146 : decode cX5_nextToken 146 = .ok (.ldc2_w 112, 3) := by decide +kernel
theorem dX5_nextToken_149 : decode cX5_nextToken 149 = .ok (.aload_n 0, 1) := by decide +kernel
theorem dX5_nextToken_150 : decode cX5_nextToken 150 = .ok (.getfield 108, 3) := by decide +kernel
theorem dX5_nextToken_153 : decode cX5_nextToken 153 = .ok (.lmul, 1) := by decide +kernel
theorem dX5_nextToken_154 : decode cX5_nextToken 154 = .ok (.aload_n 0, 1) := by decide +kernel
theorem dX5_nextToken_155 : decode cX5_nextToken 155 = .ok (.getfield 26, 3) := by decide +kernel
theorem dX5_nextToken_158 : decode cX5_nextToken 158 = .ok (.aload_n 0, 1) := by decide +kernel
theorem dX5_nextToken_159 : decode cX5_nextToken 159 = .ok (.getfield 94, 3) := by decide +kernel
theorem dX5_nextToken_162 : decode cX5_nextToken 162 = .ok (.iaload, 1) := by decide +kernel
theorem dX5_nextToken_163 : decode cX5_nextToken 163 = .ok (.i2l, 1) := by decide +kernel
theorem dX5_nextToken_164 : decode cX5_nextToken 164 = .ok (.ladd, 1) := by decide +kernel
theorem dX5_nextToken_165 : decode cX5_nextToken 165 = .ok (.ldc2_w 114, 3) := by decide +kernel
theorem dX5_nextToken_168 : decode cX5_nextToken 168 = .ok (.lsub, 1) := by decide +kernel
theorem dX5_nextToken_169 : decode cX5_nextToken 169 = .ok (.goto 6, 3) := by decide +kernel
theorem dX5_nextToken_172 : decode cX5_nextToken 172 = .ok (.ldc2_w 116, 3) := by decide +kernel
theorem dX5_nextToken_175 : decode cX5_nextToken 175 = .ok (.putfield 108, 3) := by decide +kernel
theorem dX5_nextToken_178 : decode cX5_nextToken 178 = .ok (.aload_n 0, 1) := by decide +kernel
theorem dX5_nextToken_179 : decode cX5_nextToken 179 = .ok (.dup, 1) := by decide +kernel
theorem dX5_nextToken_180 : decode cX5_nextToken 180 = .ok (.getfield 94, 3) := by decide +kernel
theorem dX5_nextToken_183 : decode cX5_nextToken 183 = .ok (.iconst 1, 1) := by decide +kernel
theorem dX5_nextToken_184 : decode cX5_nextToken 184 = .ok (.iadd, 1) := by decide +kernel
theorem dX5_nextToken_185 : decode cX5_nextToken 185 = .ok (.putfield 94, 3) := by decide +kernel
theorem dX5_nextToken_188 : decode cX5_nextToken 188 = .ok (.goto (-87), 3) := by decide +kernel
theorem dX5_nextToken_191 : decode cX5_nextToken 191 = .ok (.aload_n 0, 1) := by decide +kernel
theorem dX5_nextToken_192 : decode cX5_nextToken 192 = .ok (.aload_n 0, 1) := by decide +kernel
theorem dX5_nextToken_193 : decode cX5_nextToken 193 = .ok (.getfield 94, 3) := by decide +kernel
theorem dX5_nextToken_196 : decode cX5_nextToken 196 = .ok (.aload_n 0, 1) := by decide +kernel
theorem dX5_nextToken_197 : decode cX5_nextToken 197 = .ok (.getfield 97, 3) := by decide +kernel
theorem dX5_nextToken_200 : decode cX5_nextToken 200 = .ok (.isub, 1) := by decide +kernel
theorem dX5_nextToken_201 : decode cX5_nextToken 201 = .ok (.bipush 9, 2) := by decide +kernel
theorem dX5_nextToken_203 : decode cX5_nextToken 203 = .ok (.if_icmp .le 9, 3) := by decide +kernel
theorem dX5_nextToken_206 : decode cX5_nextToken 206 = .ok (.ldc2_w 116, 3) := by decide +kernel
theorem dX5_nextToken_209 : decode cX5_nextToken 209 = .ok (.goto 7, 3) := by decide +kernel
theorem dX5_nextToken_212 : decode cX5_nextToken 212 = .ok (.aload_n 0, 1) := by decide +kernel
theorem dX5_nextToken_213 : decode cX5_nextToken 213 = .ok (.getfield 108, 3) := by decide +kernel
theorem dX5_nextToken_216 : decode cX5_nextToken 216 = .ok (.putfield 108, 3) := by decide +kernel
theorem dX5_nextToken_219 : decode cX5_nextToken 219 = .ok (.goto 175, 3) := by decide +kernel
theorem dX5_nextToken_222 : decode cX5_nextToken 222 = .ok (.aload_n 0, 1) := by decide +kernel
theorem dX5_nextToken_223 : decode cX5_nextToken 223 = .ok (.getfield 26, 3) := by decide +kernel
theorem dX5_nextToken_226 : decode cX5_nextToken 226 = .ok (.aload_n 0, 1) := by decide +kernel
theorem dX5_nextToken_227 : decode cX5_nextToken 227 = .ok (.getfield 94, 3) := by decide +kernel
theorem dX5_nextToken_230 : decode cX5_nextToken 230 = .ok (.iaload, 1) := by decide +kernel
theorem dX5_nextToken_231 : decode cX5_nextToken 231 = .ok (.bipush 48, 2) := by decide +kernel
theorem dX5_nextToken_233 : decode cX5_nextToken 233 = .ok (.bipush 57, 2) := by decide +kernel
theorem dX5_nextToken_235 : decode cX5_nextToken 235 = .ok (.invokestatic 87, 3) := by decide +kernel
theorem dX5_nextToken_238 : decode cX5_nextToken 238 = .ok (.ifCond .eq 119, 3) := by decide +kernel
theorem dX5_nextToken_241 : decode cX5_nextToken 241 = .ok (.aload_n 0, 1) := by decide +kernel
theorem dX5_nextToken_242 : decode cX5_nextToken 242 = .ok (.getfield 94, 3) := by decide +kernel
theorem dX5_nextToken_245 : decode cX5_nextToken 245 = .ok (.aload_n 0, 1) := by decide +kernel
theorem dX5_nextToken_246 : decode cX5_nextToken 246 = .ok (.getfield 91, 3) := by decide +kernel
theorem dX5_nextToken_249 : decode cX5_nextToken 249 = .ok (.if_icmp .ge 84, 3) := by decide +kernel
theorem dX5_nextToken_252 : decode cX5_nextToken 252 = .ok (.aload_n 0, 1) := by decide +kernel
theorem dX5_nextToken_253 : decode cX5_nextToken 253 = .ok (.getfield 26, 3) := by decide +kernel
theorem dX5_nextToken_256 : decode cX5_nextToken 256 = .ok (.aload_n 0, 1) := by decide +kernel
theorem dX5_nextToken_257 : decode cX5_nextToken 257 = .ok (.getfield 94, 3) := by decide +kernel
theorem dX5_nextToken_260 : decode cX5_nextToken 260 = .ok (.iaload, 1) := by decide +kernel
theorem dX5_nextToken_261 : decode cX5_nextToken 261 = .ok (.bipush 48, 2) := by decide +kernel
theorem dX5_nextToken_263 : decode cX5_nextToken 263 = .ok (.bipush 57, 2) := by decide +kernel
theorem dX5_nextToken_265 : decode cX5_nextToken 265 = .ok (.invokestatic 87, 3) := by decide +kernel
theorem dX5_nextToken_268 : decode cX5_nextToken 268 = .ok (.ifCond .eq 65, 3) := by decide +kernel
theorem dX5_nextToken_271 : decode cX5_nextToken 271 = .ok (.aload_n 0, 1) := by decide +kernel
theorem dX5_nextToken_272 : decode cX5_nextToken 272 = .ok (.aload_n 0, 1) := by decide +kernel
theorem dX5_nextToken_273 : decode cX5_nextToken 273 = .ok (.getfield 100, 3) := by decide +kernel
theorem dX5_nextToken_276 : decode cX5_nextToken 276 = .ok (.iconst 2, 1) := by decide +kernel
theorem dX5_nextToken_277 : decode cX5_nextToken 277 = .ok (.if_icmp .ge 26, 3) := by decide +kernel
theorem dX5_nextToken_280 : decode cX5_nextToken 280 = .ok (.bipush 10, 2) := by decide +kernel
theorem dX5_nextToken_282 : decode cX5_nextToken 282 = .ok (.aload_n 0, 1) := by decide +kernel
theorem dX5_nextToken_283 : decode cX5_nextToken 283 = .ok (.getfield 103, 3) := by decide +kernel
theorem dX5_nextToken_286 : decode cX5_nextToken 286 = .ok (.imul, 1) := by decide +kernel
theorem dX5_nextToken_287 : decode cX5_nextToken 287 = .ok (.aload_n 0, 1) := by decide +kernel
theorem dX5_nextToken_288 : decode cX5_nextToken 288 = .ok (.getfield 26, 3) := by decide +kernel
theorem dX5_nextToken_291 : decode cX5_nextToken 291 = .ok (.aload_n 0, 1) := by decide +kernel
theorem dX5_nextToken_292 : decode cX5_nextToken 292 = .ok (.getfield 94, 3) := by decide +kernel
theorem dX5_nextToken_295 : decode cX5_nextToken 295 = .ok (.iaload, 1) := by decide +kernel
theorem dX5_nextToken_296 : decode cX5_nextToken 296 = .ok (.iadd, 1) := by decide +kernel
theorem dX5_nextToken_297 : decode cX5_nextToken 297 = .ok (.bipush 48, 2) := by decide +kernel
theorem dX5_nextToken_299 : decode cX5_nextToken 299 = .ok (.isub, 1) := by decide +kernel
theorem dX5_nextToken_300 : decode cX5_nextToken 300 = .ok (.goto 7, 3) := by decide +kernel
theorem dX5_nextToken_303 : decode cX5_nextToken 303 = .ok (.aload_n 0, 1) := by decide +kernel
theorem dX5_nextToken_304 : decode cX5_nextToken 304 = .ok (.getfield 103, 3) := by decide +kernel
theorem dX5_nextToken_307 : decode cX5_nextToken 307 = .ok (.putfield 103, 3) := by decide +kernel
theorem dX5_nextToken_310 : decode cX5_nextToken 310 = .ok (.aload_n 0, 1) := by decide +kernel
theorem dX5_nextToken_311 : decode cX5_nextToken 311 = .ok (.dup, 1) := by decide +kernel
theorem dX5_nextToken_312 : decode cX5_nextToken 312 = .ok (.getfield 100, 3) := by decide +kernel
theorem dX5_nextToken_315 : decode cX5_nextToken 315 = .ok (.iconst 1, 1) := by decide +kernel
theorem dX5_nextToken_316 : decode cX5_nextToken 316 = .ok (.iadd, 1) := by decide +kernel
theorem dX5_nextToken_317 : decode cX5_nextToken 317 = .ok (.putfield 100, 3) := by decide +kernel
theorem dX5_nextToken_320 : decode cX5_nextToken 320 = .ok (.aload_n 0, 1) := by decide +kernel
theorem dX5_nextToken_321 : decode cX5_nextToken 321 = .ok (.dup, 1) := by decide +kernel
theorem dX5_nextToken_322 : decode cX5_nextToken 322 = .ok (.getfield 94, 3) := by decide +kernel
theorem dX5_nextToken_325 : decode cX5_nextToken 325 = .ok (.iconst 1, 1) := by decide +kernel
theorem dX5_nextToken_326 : decode cX5_nextToken 326 = .ok (.iadd, 1) := by decide +kernel
theorem dX5_nextToken_327 : decode cX5_nextToken 327 = .ok (.putfield 94, 3) := by decide +kernel
theorem dX5_nextToken_330 : decode cX5_nextToken 330 = .ok (.goto (-89), 3) := by decide +kernel
theorem dX5_nextToken_333 : decode cX5_nextToken 333 = .ok (.aload_n 0, 1) := by decide +kernel
theorem dX5_nextToken_334 : decode cX5_nextToken 334 = .ok (.aload_n 0, 1) := by decide +kernel
theorem dX5_nextToken_335 : decode cX5_nextToken 335 = .ok (.getfield 100, 3) := by decide +kernel
theorem dX5_nextToken_338 : decode cX5_nextToken 338 = .ok (.iconst 2, 1) := by decide +kernel
theorem dX5_nextToken_339 : decode cX5_nextToken 339 = .ok (.if_icmp .le 9, 3) := by decide +kernel
theorem dX5_nextToken_342 : decode cX5_nextToken 342 = .ok (.ldc2_w 116, 3) := by decide +kernel
theorem dX5_nextToken_345 : decode cX5_nextToken 345 = .ok (.goto 6, 3) := by decide +kernel
theorem dX5_nextToken_348 : decode cX5_nextToken 348 = .ok (.ldc2_w 118, 3) := by decide +kernel
theorem dX5_nextToken_351 : decode cX5_nextToken 351 = .ok (.putfield 108, 3) := by decide +kernel
theorem dX5_nextToken_354 : decode cX5_nextToken 354 = .ok (.goto 40, 3) := by decide +kernel
theorem dX5_nextToken_357 : decode cX5_nextToken 357 = .ok (.aload_n 0, 1) := by decide +kernel
theorem dX5_nextToken_358 : decode cX5_nextToken 358 = .ok (.aload_n 0, 1) := by decide +kernel
theorem dX5_nextToken_359 : decode cX5_nextToken 359 = .ok (.getfield 26, 3) := by decide +kernel
theorem dX5_nextToken_362 : decode cX5_nextToken 362 = .ok (.aload_n 0, 1) := by decide +kernel
theorem dX5_nextToken_363 : decode cX5_nextToken 363 = .ok (.getfield 94, 3) := by decide +kernel
theorem dX5_nextToken_366 : decode cX5_nextToken 366 = .ok (.iaload, 1) := by decide +kernel
theorem dX5_nextToken_367 : decode cX5_nextToken 367 = .ok (.bipush 59, 2) := by decide +kernel
theorem dX5_nextToken_369 : decode cX5_nextToken 369 = .ok (.if_icmp .ne 9, 3) := by decide +kernel
theorem dX5_nextToken_372 : decode cX5_nextToken 372 = .ok (.ldc2_w 120, 3) := by decide +kernel
theorem dX5_nextToken_375 : decode cX5_nextToken 375 = .ok (.goto 6, 3) := by decide +kernel
theorem dX5_nextToken_378 : decode cX5_nextToken 378 = .ok (.ldc2_w 116, 3) := by decide +kernel
theorem dX5_nextToken_381 : decode cX5_nextToken 381 = .ok (.putfield 108, 3) := by decide +kernel
theorem dX5_nextToken_384 : decode cX5_nextToken 384 = .ok (.aload_n 0, 1) := by decide +kernel
theorem dX5_nextToken_385 : decode cX5_nextToken 385 = .ok (.dup, 1) := by decide +kernel
theorem dX5_nextToken_386 : decode cX5_nextToken 386 = .ok (.getfield 94, 3) := by decide +kernel
theorem dX5_nextToken_389 : decode cX5_nextToken 389 = .ok (.iconst 1, 1) := by decide +kernel
theorem dX5_nextToken_390 : decode cX5_nextToken 390 = .ok (.iadd, 1) := by decide +kernel
theorem dX5_nextToken_391 : decode cX5_nextToken 391 = .ok (.putfield 94, 3) := by decide +kernel
theorem dX5_nextToken_394 : decode cX5_nextToken 394 = .ok (.return_, 1) := by decide +kernel
theorem dX5_fails_0 : decode cX5_fails 0 = .ok (.aload_n 0, 1) := by decide +kernel
theorem dX5_fails_1 : decode cX5_fails 1 = .ok (.aload_n 0, 1) := by decide +kernel
theorem dX5_fails_2 : decode cX5_fails 2 = .ok (.getfield 97, 3) := by decide +kernel
theorem dX5_fails_5 : decode cX5_fails 5 = .ok (.putfield 122, 3) := by decide +kernel
theorem dX5_fails_8 : decode cX5_fails 8 = .ok (.iconst 0, 1) := by decide +kernel
theorem dX5_fails_9 : decode cX5_fails 9 = .ok (.ireturn, 1) := by decide +kernel
theorem dX5_isNumber_0 : decode cX5_isNumber 0 = .ok (.aload_n 0, 1) := by decide +kernel
theorem dX5_isNumber_1 : decode cX5_isNumber 1 = .ok (.invokevirtual 125, 3) := by decide +kernel
theorem dX5_isNumber_4 : decode cX5_isNumber 4 = .ok (.aload_n 0, 1) := by decide +kernel
theorem dX5_isNumber_5 : decode cX5_isNumber 5 = .ok (.getfield 108, 3) := by decide +kernel
theorem dX5_isNumber_8 : decode cX5_isNumber 8 = .ok (.ldc2_w 118, 3) := by decide +kernel
theorem dX5_isNumber_11 : decode cX5_isNumber 11 = .ok (.lcmp, 1) := by decide +kernel
theorem dX5_isNumber_12 : decode cX5_isNumber 12 = .ok (.ifCond .ne 15, 3) := by decide +kernel
theorem dX5_isNumber_15 : decode cX5_isNumber 15 = .ok (.aload_n 0, 1) := by decide +kernel
theorem dX5_isNumber_16 : decode cX5_isNumber 16 = .ok (.getfield 103, 3) := by decide +kernel
theorem dX5_isNumber_19 : decode cX5_isNumber 19 = .ok (.iload_n 2, 1) := by decide +kernel
theorem dX5_isNumber_20 : decode cX5_isNumber 20 = .ok (.iload_n 3, 1) := by decide +kernel
theorem dX5_isNumber_21 : decode cX5_isNumber 21 = .ok (.invokestatic 87, 3) := by decide +kernel
theorem dX5_isNumber_24 : decode cX5_isNumber 24 = .ok (.ifCond .ne 8, 3) := by decide +kernel
theorem dX5_isNumber_27 : decode cX5_isNumber 27 = .ok (.aload_n 0, 1) := by decide +kernel
theorem dX5_isNumber_28 : decode cX5_isNumber 28 = .ok (.invokevirtual 128, 3) := by decide +kernel
theorem dX5_isNumber_31 : decode cX5_isNumber 31 = .ok (.ireturn, 1) := by decide +kernel
theorem dX5_isNumber_32 : decode cX5_isNumber 32 = .ok (.aload_n 0, 1) := by decide +kernel
theorem dX5_isNumber_33 : decode cX5_isNumber 33 = .ok (.getfield 29, 3) := by decide +kernel
theorem dX5_isNumber_36 : decode cX5_isNumber 36 = .ok (.iload_n 1, 1) := by decide +kernel
theorem dX5_isNumber_37 : decode cX5_isNumber 37 = .ok (.aload_n 0, 1) := by decide +kernel
theorem dX5_isNumber_38 : decode cX5_isNumber 38 = .ok (.getfield 103, 3) := by decide +kernel
theorem dX5_isNumber_41 : decode cX5_isNumber 41 = .ok (.iastore, 1) := by decide +kernel
theorem dX5_isNumber_42 : decode cX5_isNumber 42 = .ok (.iconst 1, 1) := by decide +kernel
theorem dX5_isNumber_43 : decode cX5_isNumber 43 = .ok (.ireturn, 1) := by decide +kernel
theorem dX5_isThingLine_0 : decode cX5_isThingLine 0 = .ok (.aload_n 0, 1) := by decide +kernel
theorem dX5_isThingLine_1 : decode cX5_isThingLine 1 = .ok (.getfield 132, 3) := by decide +kernel
theorem dX5_isThingLine_4 : decode cX5_isThingLine 4 = .ok (.bipush 8, 2) := by decide +kernel
theorem dX5_isThingLine_6 : decode cX5_isThingLine 6 = .ok (.if_icmp .ne 8, 3) := by decide +kernel
theorem dX5_isThingLine_9 : decode cX5_isThingLine 9 = .ok (.aload_n 0, 1) := by decide +kernel
theorem dX5_isThingLine_10 : decode cX5_isThingLine 10 = .ok (.invokevirtual 128, 3) := by decide +kernel
theorem dX5_isThingLine_13 : decode cX5_isThingLine 13 = .ok (.ireturn, 1) := by decide +kernel
theorem dX5_isThingLine_14 : decode cX5_isThingLine 14 = .ok (.aload_n 0, 1) := by decide +kernel
theorem dX5_isThingLine_15 : decode cX5_isThingLine 15 = .ok (.dup, 1) := by decide +kernel
theorem dX5_isThingLine_16 : decode cX5_isThingLine 16 = .ok (.getfield 132, 3) := by decide +kernel
theorem dX5_isThingLine_19 : decode cX5_isThingLine 19 = .ok (.iconst 1, 1) := by decide +kernel
theorem dX5_isThingLine_20 : decode cX5_isThingLine 20 = .ok (.iadd, 1) := by decide +kernel
theorem dX5_isThingLine_21 : decode cX5_isThingLine 21 = .ok (.putfield 132, 3) := by decide +kernel
theorem dX5_isThingLine_24 : decode cX5_isThingLine 24 = .ok (.aload_n 0, 1) := by decide +kernel
theorem dX5_isThingLine_25 : decode cX5_isThingLine 25 = .ok (.iload_n 1, 1) := by decide +kernel
theorem dX5_isThingLine_26 : decode cX5_isThingLine 26 = .ok (.iconst 1, 1) := by decide +kernel
theorem dX5_isThingLine_27 : decode cX5_isThingLine 27 = .ok (.iadd, 1) := by decide +kernel
theorem dX5_isThingLine_28 : decode cX5_isThingLine 28 = .ok (.iconst 1, 1) := by decide +kernel
theorem dX5_isThingLine_29 : decode cX5_isThingLine 29 = .ok (.bipush 20, 2) := by decide +kernel
theorem dX5_isThingLine_31 : decode cX5_isThingLine 31 = .ok (.invokevirtual 135, 3) := by decide +kernel
theorem dX5_isThingLine_34 : decode cX5_isThingLine 34 = .ok (.ifCond .eq 32, 3) := by decide +kernel
theorem dX5_isThingLine_37 : decode cX5_isThingLine 37 = .ok (.aload_n 0, 1) := by decide +kernel
theorem dX5_isThingLine_38 : decode cX5_isThingLine 38 = .ok (.iload_n 1, 1) := by decide +kernel
theorem dX5_isThingLine_39 : decode cX5_isThingLine 39 = .ok (.iconst 2, 1) := by decide +kernel
theorem dX5_isThingLine_40 : decode cX5_isThingLine 40 = .ok (.iadd, 1) := by decide +kernel
theorem dX5_isThingLine_41 : decode cX5_isThingLine 41 = .ok (.iconst 0, 1) := by decide +kernel
theorem dX5_isThingLine_42 : decode cX5_isThingLine 42 = .ok (.bipush 40, 2) := by decide +kernel
theorem dX5_isThingLine_44 : decode cX5_isThingLine 44 = .ok (.invokevirtual 135, 3) := by decide +kernel
theorem dX5_isThingLine_47 : decode cX5_isThingLine 47 = .ok (.ifCond .eq 19, 3) := by decide +kernel
theorem dX5_isThingLine_50 : decode cX5_isThingLine 50 = .ok (.aload_n 0, 1) := by decide +kernel
theorem dX5_isThingLine_51 : decode cX5_isThingLine 51 = .ok (.iload_n 1, 1) := by decide +kernel
theorem dX5_isThingLine_52 : decode cX5_isThingLine 52 = .ok (.iconst 3, 1) := by decide +kernel
theorem dX5_isThingLine_53 : decode cX5_isThingLine 53 = .ok (.iadd, 1) := by decide +kernel
theorem dX5_isThingLine_54 : decode cX5_isThingLine 54 = .ok (.iconst 0, 1) := by decide +kernel
theorem dX5_isThingLine_55 : decode cX5_isThingLine 55 = .ok (.iconst 2, 1) := by decide +kernel
theorem dX5_isThingLine_56 : decode cX5_isThingLine 56 = .ok (.invokevirtual 135, 3) := by decide +kernel
theorem dX5_isThingLine_59 : decode cX5_isThingLine 59 = .ok (.ifCond .eq 7, 3) := by decide +kernel
theorem dX5_isThingLine_62 : decode cX5_isThingLine 62 = .ok (.iconst 1, 1) := by decide +kernel
theorem dX5_isThingLine_63 : decode cX5_isThingLine 63 = .ok (.goto 4, 3) := by decide +kernel
theorem dX5_isThingLine_66 : decode cX5_isThingLine 66 = .ok (.iconst 0, 1) := by decide +kernel
theorem dX5_isThingLine_67 : decode cX5_isThingLine 67 = .ok (.ireturn, 1) := by decide +kernel
theorem dX5_isLine_0 : decode cX5_isLine 0 = .ok (.aload_n 0, 1) := by decide +kernel
theorem dX5_isLine_1 : decode cX5_isLine 1 = .ok (.invokevirtual 125, 3) := by decide +kernel
theorem dX5_isLine_4 : decode cX5_isLine 4 = .ok (.aload_n 0, 1) := by decide +kernel
theorem dX5_isLine_5 : decode cX5_isLine 5 = .ok (.getfield 108, 3) := by decide +kernel
theorem dX5_isLine_8 : decode cX5_isLine 8 = .ok (.ldc2_w 138, 3) := by decide +kernel
theorem dX5_isLine_11 : decode cX5_isLine 11 = .ok (.lcmp, 1) := by decide +kernel
theorem dX5_isLine_12 : decode cX5_isLine 12 = .ok (.ifCond .ne 7, 3) := by decide +kernel
theorem dX5_isLine_15 : decode cX5_isLine 15 = .ok (.iconst 0, 1) := by decide +kernel
theorem dX5_isLine_16 : decode cX5_isLine 16 = .ok (.goto 79, 3) := by decide +kernel
theorem dX5_isLine_19 : decode cX5_isLine 19 = .ok (.aload_n 0, 1) := by decide +kernel
theorem dX5_isLine_20 : decode cX5_isLine 20 = .ok (.getfield 108, 3) := by decide +kernel
theorem dX5_isLine_23 : decode cX5_isLine 23 = .ok (.ldc2_w 140, 3) := by decide +kernel
theorem dX5_isLine_26 : decode cX5_isLine 26 = .ok (.lcmp, 1) := by decide +kernel
theorem dX5_isLine_27 : decode cX5_isLine 27 = .ok (.ifCond .ne 7, 3) := by decide +kernel
theorem dX5_isLine_30 : decode cX5_isLine 30 = .ok (.iconst 1, 1) := by decide +kernel
theorem dX5_isLine_31 : decode cX5_isLine 31 = .ok (.goto 64, 3) := by decide +kernel
theorem dX5_isLine_34 : decode cX5_isLine 34 = .ok (.aload_n 0, 1) := by decide +kernel
theorem dX5_isLine_35 : decode cX5_isLine 35 = .ok (.getfield 108, 3) := by decide +kernel
theorem dX5_isLine_38 : decode cX5_isLine 38 = .ok (.ldc2_w 142, 3) := by decide +kernel
theorem dX5_isLine_41 : decode cX5_isLine 41 = .ok (.lcmp, 1) := by decide +kernel
theorem dX5_isLine_42 : decode cX5_isLine 42 = .ok (.ifCond .ne 7, 3) := by decide +kernel
theorem dX5_isLine_45 : decode cX5_isLine 45 = .ok (.iconst 2, 1) := by decide +kernel
theorem dX5_isLine_46 : decode cX5_isLine 46 = .ok (.goto 49, 3) := by decide +kernel
theorem dX5_isLine_49 : decode cX5_isLine 49 = .ok (.aload_n 0, 1) := by decide +kernel
theorem dX5_isLine_50 : decode cX5_isLine 50 = .ok (.getfield 108, 3) := by decide +kernel
theorem dX5_isLine_53 : decode cX5_isLine 53 = .ok (.ldc2_w 144, 3) := by decide +kernel
theorem dX5_isLine_56 : decode cX5_isLine 56 = .ok (.lcmp, 1) := by decide +kernel
theorem dX5_isLine_57 : decode cX5_isLine 57 = .ok (.ifCond .ne 7, 3) := by decide +kernel
theorem dX5_isLine_60 : decode cX5_isLine 60 = .ok (.iconst 3, 1) := by decide +kernel
theorem dX5_isLine_61 : decode cX5_isLine 61 = .ok (.goto 34, 3) := by decide +kernel
theorem dX5_isLine_64 : decode cX5_isLine 64 = .ok (.aload_n 0, 1) := by decide +kernel
theorem dX5_isLine_65 : decode cX5_isLine 65 = .ok (.getfield 108, 3) := by decide +kernel
theorem dX5_isLine_68 : decode cX5_isLine 68 = .ok (.ldc2_w 146, 3) := by decide +kernel
theorem dX5_isLine_71 : decode cX5_isLine 71 = .ok (.lcmp, 1) := by decide +kernel
theorem dX5_isLine_72 : decode cX5_isLine 72 = .ok (.ifCond .ne 7, 3) := by decide +kernel
theorem dX5_isLine_75 : decode cX5_isLine 75 = .ok (.iconst 4, 1) := by decide +kernel
theorem dX5_isLine_76 : decode cX5_isLine 76 = .ok (.goto 19, 3) := by decide +kernel
theorem dX5_isLine_79 : decode cX5_isLine 79 = .ok (.aload_n 0, 1) := by decide +kernel
theorem dX5_isLine_80 : decode cX5_isLine 80 = .ok (.getfield 108, 3) := by decide +kernel
theorem dX5_isLine_83 : decode cX5_isLine 83 = .ok (.ldc2_w 148, 3) := by decide +kernel
theorem dX5_isLine_86 : decode cX5_isLine 86 = .ok (.lcmp, 1) := by decide +kernel
theorem dX5_isLine_87 : decode cX5_isLine 87 = .ok (.ifCond .ne 7, 3) := by decide +kernel
theorem dX5_isLine_90 : decode cX5_isLine 90 = .ok (.iconst 5, 1) := by decide +kernel
theorem dX5_isLine_91 : decode cX5_isLine 91 = .ok (.goto 4, 3) := by decide +kernel
theorem dX5_isLine_94 : decode cX5_isLine 94 = .ok (.iconst (-1), 1) := by decide +kernel
theorem dX5_isLine_95 : decode cX5_isLine 95 = .ok (.istore_n 2, 1) := by decide +kernel
theorem dX5_isLine_96 : decode cX5_isLine 96 = .ok (.aload_n 0, 1) := by decide +kernel
theorem dX5_isLine_97 : decode cX5_isLine 97 = .ok (.getfield 108, 3) := by decide +kernel
theorem dX5_isLine_100 : decode cX5_isLine 100 = .ok (.ldc2_w 150, 3) := by decide +kernel
theorem dX5_isLine_103 : decode cX5_isLine 103 = .ok (.lcmp, 1) := by decide +kernel
theorem dX5_isLine_104 : decode cX5_isLine 104 = .ok (.ifCond .ne 8, 3) := by decide +kernel
theorem dX5_isLine_107 : decode cX5_isLine 107 = .ok (.bipush 6, 2) := by decide +kernel
theorem dX5_isLine_109 : decode cX5_isLine 109 = .ok (.goto 68, 3) := by decide +kernel
theorem dX5_isLine_112 : decode cX5_isLine 112 = .ok (.aload_n 0, 1) := by decide +kernel
theorem dX5_isLine_113 : decode cX5_isLine 113 = .ok (.getfield 108, 3) := by decide +kernel
theorem dX5_isLine_116 : decode cX5_isLine 116 = .ok (.ldc2_w 152, 3) := by decide +kernel
theorem dX5_isLine_119 : decode cX5_isLine 119 = .ok (.lcmp, 1) := by decide +kernel
theorem dX5_isLine_120 : decode cX5_isLine 120 = .ok (.ifCond .ne 8, 3) := by decide +kernel
theorem dX5_isLine_123 : decode cX5_isLine 123 = .ok (.bipush 7, 2) := by decide +kernel
theorem dX5_isLine_125 : decode cX5_isLine 125 = .ok (.goto 52, 3) := by decide +kernel
theorem dX5_isLine_128 : decode cX5_isLine 128 = .ok (.aload_n 0, 1) := by decide +kernel
theorem dX5_isLine_129 : decode cX5_isLine 129 = .ok (.getfield 108, 3) := by decide +kernel
theorem dX5_isLine_132 : decode cX5_isLine 132 = .ok (.ldc2_w 154, 3) := by decide +kernel
theorem dX5_isLine_135 : decode cX5_isLine 135 = .ok (.lcmp, 1) := by decide +kernel
theorem dX5_isLine_136 : decode cX5_isLine 136 = .ok (.ifCond .ne 8, 3) := by decide +kernel
theorem dX5_isLine_139 : decode cX5_isLine 139 = .ok (.bipush 8, 2) := by decide +kernel
theorem dX5_isLine_141 : decode cX5_isLine 141 = .ok (.goto 36, 3) := by decide +kernel
theorem dX5_isLine_144 : decode cX5_isLine 144 = .ok (.aload_n 0, 1) := by decide +kernel
theorem dX5_isLine_145 : decode cX5_isLine 145 = .ok (.getfield 108, 3) := by decide +kernel
theorem dX5_isLine_148 : decode cX5_isLine 148 = .ok (.ldc2_w 156, 3) := by decide +kernel
theorem dX5_isLine_151 : decode cX5_isLine 151 = .ok (.lcmp, 1) := by decide +kernel
theorem dX5_isLine_152 : decode cX5_isLine 152 = .ok (.ifCond .ne 8, 3) := by decide +kernel
theorem dX5_isLine_155 : decode cX5_isLine 155 = .ok (.bipush 9, 2) := by decide +kernel
theorem dX5_isLine_157 : decode cX5_isLine 157 = .ok (.goto 20, 3) := by decide +kernel
theorem dX5_isLine_160 : decode cX5_isLine 160 = .ok (.aload_n 0, 1) := by decide +kernel
theorem dX5_isLine_161 : decode cX5_isLine 161 = .ok (.getfield 108, 3) := by decide +kernel
theorem dX5_isLine_164 : decode cX5_isLine 164 = .ok (.ldc2_w 158, 3) := by decide +kernel
theorem dX5_isLine_167 : decode cX5_isLine 167 = .ok (.lcmp, 1) := by decide +kernel
theorem dX5_isLine_168 : decode cX5_isLine 168 = .ok (.ifCond .ne 8, 3) := by decide +kernel
end
section
theorem dX5_isLine_171 : decode cX5_isLine 171 = .ok (.bipush 10, 2) := by decide +kernel
theorem dX5_isLine_173 : decode cX5_isLine 173 = .ok (.goto 4, 3) := by decide +kernel
theorem dX5_isLine_176 : decode cX5_isLine 176 = .ok (.iconst (-1), 1) := by decide +kernel
theorem dX5_isLine_177 : decode cX5_isLine 177 = .ok (.istore_n 3, 1) := by decide +kernel
theorem dX5_isLine_178 : decode cX5_isLine 178 = .ok (.aload_n 0, 1) := by decide +kernel
theorem dX5_isLine_179 : decode cX5_isLine 179 = .ok (.getfield 29, 3) := by decide +kernel
theorem dX5_isLine_182 : decode cX5_isLine 182 = .ok (.iload_n 1, 1) := by decide +kernel
theorem dX5_isLine_183 : decode cX5_isLine 183 = .ok (.iload_n 2, 1) := by decide +kernel
theorem dX5_isLine_184 : decode cX5_isLine 184 = .ok (.iconst (-1), 1) := by decide +kernel
theorem dX5_isLine_185 : decode cX5_isLine 185 = .ok (.if_icmp .ne 7, 3) := by decide +kernel
theorem dX5_isLine_188 : decode cX5_isLine 188 = .ok (.iload_n 3, 1) := by decide +kernel
theorem dX5_isLine_189 : decode cX5_isLine 189 = .ok (.goto 4, 3) := by decide +kernel
theorem dX5_isLine_192 : decode cX5_isLine 192 = .ok (.iload_n 2, 1) := by decide +kernel
theorem dX5_isLine_193 : decode cX5_isLine 193 = .ok (.iastore, 1) := by decide +kernel
theorem dX5_isLine_194 : decode cX5_isLine 194 = .ok (.aload_n 0, 1) := by decide +kernel
theorem dX5_isLine_195 : decode cX5_isLine 195 = .ok (.getfield 29, 3) := by decide +kernel
theorem dX5_isLine_198 : decode cX5_isLine 198 = .ok (.iload_n 1, 1) := by decide +kernel
theorem dX5_isLine_199 : decode cX5_isLine 199 = .ok (.iaload, 1) := by decide +kernel
theorem dX5_isLine_200 : decode cX5_isLine 200 = .ok (.tableswitch 125 0 10 #[60, 60, 60, 60, 60, 66, 73, 104, 104, 114, 66], 60) := by decide +kernel
theorem dX5_isLine_260 : decode cX5_isLine 260 = .ok (.aload_n 0, 1) := by decide +kernel
theorem dX5_isLine_261 : decode cX5_isLine 261 = .ok (.iload_n 1, 1) := by decide +kernel
theorem dX5_isLine_262 : decode cX5_isLine 262 = .ok (.invokevirtual 160, 3) := by decide +kernel
theorem dX5_isLine_265 : decode cX5_isLine 265 = .ok (.ireturn, 1) := by decide +kernel
theorem dX5_isLine_266 : decode cX5_isLine 266 = .ok (.aload_n 0, 1) := by decide +kernel
theorem dX5_isLine_267 : decode cX5_isLine 267 = .ok (.iconst 0, 1) := by decide +kernel
theorem dX5_isLine_268 : decode cX5_isLine 268 = .ok (.putfield 132, 3) := by decide +kernel
theorem dX5_isLine_271 : decode cX5_isLine 271 = .ok (.iconst 1, 1) := by decide +kernel
theorem dX5_isLine_272 : decode cX5_isLine 272 = .ok (.ireturn, 1) := by decide +kernel
theorem dX5_isLine_273 : decode cX5_isLine 273 = .ok (.aload_n 0, 1) := by decide +kernel
theorem dX5_isLine_274 : decode cX5_isLine 274 = .ok (.iload_n 1, 1) := by decide +kernel
theorem dX5_isLine_275 : decode cX5_isLine 275 = .ok (.iconst 1, 1) := by decide +kernel
theorem dX5_isLine_276 : decode cX5_isLine 276 = .ok (.iadd, 1) := by decide +kernel
theorem dX5_isLine_277 : decode cX5_isLine 277 = .ok (.iconst 0, 1) := by decide +kernel
theorem dX5_isLine_278 : decode cX5_isLine 278 = .ok (.iconst 2, 1) := by decide +kernel
theorem dX5_isLine_279 : decode cX5_isLine 279 = .ok (.invokevirtual 135, 3) := by decide +kernel
theorem dX5_isLine_282 : decode cX5_isLine 282 = .ok (.ifCond .eq 20, 3) := by decide +kernel
theorem dX5_isLine_285 : decode cX5_isLine 285 = .ok (.aload_n 0, 1) := by decide +kernel
theorem dX5_isLine_286 : decode cX5_isLine 286 = .ok (.iload_n 1, 1) := by decide +kernel
theorem dX5_isLine_287 : decode cX5_isLine 287 = .ok (.iconst 2, 1) := by decide +kernel
theorem dX5_isLine_288 : decode cX5_isLine 288 = .ok (.iadd, 1) := by decide +kernel
theorem dX5_isLine_289 : decode cX5_isLine 289 = .ok (.iconst 0, 1) := by decide +kernel
theorem dX5_isLine_290 : decode cX5_isLine 290 = .ok (.bipush 99, 2) := by decide +kernel
theorem dX5_isLine_292 : decode cX5_isLine 292 = .ok (.invokevirtual 135, 3) := by decide +kernel
theorem dX5_isLine_295 : decode cX5_isLine 295 = .ok (.ifCond .eq 7, 3) := by decide +kernel
theorem dX5_isLine_298 : decode cX5_isLine 298 = .ok (.iconst 1, 1) := by decide +kernel
theorem dX5_isLine_299 : decode cX5_isLine 299 = .ok (.goto 4, 3) := by decide +kernel
theorem dX5_isLine_302 : decode cX5_isLine 302 = .ok (.iconst 0, 1) := by decide +kernel
theorem dX5_isLine_303 : decode cX5_isLine 303 = .ok (.ireturn, 1) := by decide +kernel
theorem dX5_isLine_304 : decode cX5_isLine 304 = .ok (.aload_n 0, 1) := by decide +kernel
theorem dX5_isLine_305 : decode cX5_isLine 305 = .ok (.iload_n 1, 1) := by decide +kernel
theorem dX5_isLine_306 : decode cX5_isLine 306 = .ok (.iconst 1, 1) := by decide +kernel
theorem dX5_isLine_307 : decode cX5_isLine 307 = .ok (.iadd, 1) := by decide +kernel
theorem dX5_isLine_308 : decode cX5_isLine 308 = .ok (.iconst 0, 1) := by decide +kernel
theorem dX5_isLine_309 : decode cX5_isLine 309 = .ok (.iconst 4, 1) := by decide +kernel
theorem dX5_isLine_310 : decode cX5_isLine 310 = .ok (.invokevirtual 135, 3) := by decide +kernel
theorem dX5_isLine_313 : decode cX5_isLine 313 = .ok (.ireturn, 1) := by decide +kernel
theorem dX5_isLine_314 : decode cX5_isLine 314 = .ok (.aload_n 0, 1) := by decide +kernel
theorem dX5_isLine_315 : decode cX5_isLine 315 = .ok (.iload_n 1, 1) := by decide +kernel
theorem dX5_isLine_316 : decode cX5_isLine 316 = .ok (.iconst 1, 1) := by decide +kernel
theorem dX5_isLine_317 : decode cX5_isLine 317 = .ok (.iadd, 1) := by decide +kernel
theorem dX5_isLine_318 : decode cX5_isLine 318 = .ok (.iconst 0, 1) := by decide +kernel
theorem dX5_isLine_319 : decode cX5_isLine 319 = .ok (.bipush 24, 2) := by decide +kernel
theorem dX5_isLine_321 : decode cX5_isLine 321 = .ok (.invokevirtual 135, 3) := by decide +kernel
theorem dX5_isLine_324 : decode cX5_isLine 324 = .ok (.ireturn, 1) := by decide +kernel
theorem dX5_isLine_325 : decode cX5_isLine 325 = .ok (.aload_n 0, 1) := by decide +kernel
theorem dX5_isLine_326 : decode cX5_isLine 326 = .ok (.invokevirtual 128, 3) := by decide +kernel
theorem dX5_isLine_329 : decode cX5_isLine 329 = .ok (.ireturn, 1) := by decide +kernel
theorem dX5_isRead_0 : decode cX5_isRead 0 = .ok (.aload_n 0, 1) := by decide +kernel
theorem dX5_isRead_1 : decode cX5_isRead 1 = .ok (.iconst 0, 1) := by decide +kernel
theorem dX5_isRead_2 : decode cX5_isRead 2 = .ok (.putfield 94, 3) := by decide +kernel
theorem dX5_isRead_5 : decode cX5_isRead 5 = .ok (.aload_n 0, 1) := by decide +kernel
theorem dX5_isRead_6 : decode cX5_isRead 6 = .ok (.iconst 0, 1) := by decide +kernel
theorem dX5_isRead_7 : decode cX5_isRead 7 = .ok (.putfield 164, 3) := by decide +kernel
theorem dX5_isRead_10 : decode cX5_isRead 10 = .ok (.aload_n 0, 1) := by decide +kernel
theorem dX5_isRead_11 : decode cX5_isRead 11 = .ok (.aload_n 0, 1) := by decide +kernel
theorem dX5_isRead_12 : decode cX5_isRead 12 = .ok (.getfield 72, 3) := by decide +kernel
theorem dX5_isRead_15 : decode cX5_isRead 15 = .ok (.putfield 132, 3) := by decide +kernel
theorem dX5_isRead_18 : decode cX5_isRead 18 = .ok (.iconst 1, 1) := by decide +kernel
theorem dX5_isRead_19 : decode cX5_isRead 19 = .ok (.istore_n 1, 1) := by decide +kernel
theorem dX5_isRead_20 : decode cX5_isRead 20 = .ok (.iload_n 1, 1) := by decide +kernel
theorem dX5_isRead_21 : decode cX5_isRead 21 = .ok (.ifCond .eq 61, 3) := by decide +kernel
theorem dX5_isRead_24 : decode cX5_isRead 24 = .ok (.aload_n 0, 1) := by decide +kernel
theorem dX5_isRead_25 : decode cX5_isRead 25 = .ok (.iconst 5, 1) := by decide +kernel
theorem dX5_isRead_26 : decode cX5_isRead 26 = .ok (.aload_n 0, 1) := by decide +kernel
theorem dX5_isRead_27 : decode cX5_isRead 27 = .ok (.getfield 164, 3) := by decide +kernel
theorem dX5_isRead_30 : decode cX5_isRead 30 = .ok (.imul, 1) := by decide +kernel
theorem dX5_isRead_31 : decode cX5_isRead 31 = .ok (.invokevirtual 167, 3) := by decide +kernel
theorem dX5_isRead_34 : decode cX5_isRead 34 = .ok (.ifCond .ne 5, 3) := by decide +kernel
theorem dX5_isRead_37 : decode cX5_isRead 37 = .ok (.iconst 0, 1) := by decide +kernel
theorem dX5_isRead_38 : decode cX5_isRead 38 = .ok (.ireturn, 1) := by decide +kernel
theorem dX5_isRead_39 : decode cX5_isRead 39 = .ok (.aload_n 0, 1) := by decide +kernel
theorem dX5_isRead_40 : decode cX5_isRead 40 = .ok (.dup, 1) := by decide +kernel
theorem dX5_isRead_41 : decode cX5_isRead 41 = .ok (.getfield 164, 3) := by decide +kernel
theorem dX5_isRead_44 : decode cX5_isRead 44 = .ok (.iconst 1, 1) := by decide +kernel
theorem dX5_isRead_45 : decode cX5_isRead 45 = .ok (.iadd, 1) := by decide +kernel
theorem dX5_isRead_46 : decode cX5_isRead 46 = .ok (.putfield 164, 3) := by decide +kernel
theorem dX5_isRead_49 : decode cX5_isRead 49 = .ok (.aload_n 0, 1) := by decide +kernel
theorem dX5_isRead_50 : decode cX5_isRead 50 = .ok (.invokevirtual 125, 3) := by decide +kernel
theorem dX5_isRead_53 : decode cX5_isRead 53 = .ok (.aload_n 0, 1) := by decide +kernel
theorem dX5_isRead_54 : decode cX5_isRead 54 = .ok (.getfield 108, 3) := by decide +kernel
theorem dX5_isRead_57 : decode cX5_isRead 57 = .ok (.ldc2_w 120, 3) := by decide +kernel
theorem dX5_isRead_60 : decode cX5_isRead 60 = .ok (.lcmp, 1) := by decide +kernel
theorem dX5_isRead_61 : decode cX5_isRead 61 = .ok (.ifCond .ne 16, 3) := by decide +kernel
theorem dX5_isRead_64 : decode cX5_isRead 64 = .ok (.aload_n 0, 1) := by decide +kernel
theorem dX5_isRead_65 : decode cX5_isRead 65 = .ok (.getfield 164, 3) := by decide +kernel
theorem dX5_isRead_68 : decode cX5_isRead 68 = .ok (.bipush 14, 2) := by decide +kernel
theorem dX5_isRead_70 : decode cX5_isRead 70 = .ok (.if_icmp .ge 7, 3) := by decide +kernel
theorem dX5_isRead_73 : decode cX5_isRead 73 = .ok (.iconst 1, 1) := by decide +kernel
theorem dX5_isRead_74 : decode cX5_isRead 74 = .ok (.goto 4, 3) := by decide +kernel
theorem dX5_isRead_77 : decode cX5_isRead 77 = .ok (.iconst 0, 1) := by decide +kernel
theorem dX5_isRead_78 : decode cX5_isRead 78 = .ok (.istore_n 1, 1) := by decide +kernel
theorem dX5_isRead_79 : decode cX5_isRead 79 = .ok (.goto (-59), 3) := by decide +kernel
theorem dX5_isRead_82 : decode cX5_isRead 82 = .ok (.aload_n 0, 1) := by decide +kernel
theorem dX5_isRead_83 : decode cX5_isRead 83 = .ok (.getfield 108, 3) := by decide +kernel
theorem dX5_isRead_86 : decode cX5_isRead 86 = .ok (.ldc2_w 106, 3) := by decide +kernel
theorem dX5_isRead_89 : decode cX5_isRead 89 = .ok (.lcmp, 1) := by decide +kernel
theorem dX5_isRead_90 : decode cX5_isRead 90 = .ok (.ifCond .eq 10, 3) := by decide +kernel
theorem dX5_isRead_93 : decode cX5_isRead 93 = .ok (.aload_n 0, 1) := by decide +kernel
theorem dX5_isRead_94 : decode cX5_isRead 94 = .ok (.invokevirtual 128, 3) := by decide +kernel
theorem dX5_isRead_97 : decode cX5_isRead 97 = .ok (.ifCond .eq 7, 3) := by decide +kernel
theorem dX5_isRead_100 : decode cX5_isRead 100 = .ok (.iconst 1, 1) := by decide +kernel
theorem dX5_isRead_101 : decode cX5_isRead 101 = .ok (.goto 4, 3) := by decide +kernel
theorem dX5_isRead_104 : decode cX5_isRead 104 = .ok (.iconst 0, 1) := by decide +kernel
theorem dX5_isRead_105 : decode cX5_isRead 105 = .ok (.ireturn, 1) := by decide +kernel
theorem dX5_fault_0 : decode cX5_fault 0 = .ok (.aload_n 0, 1) := by decide +kernel
theorem dX5_fault_1 : decode cX5_fault 1 = .ok (.invokevirtual 170, 3) := by decide +kernel
theorem dX5_fault_4 : decode cX5_fault 4 = .ok (.ifCond .eq 7, 3) := by decide +kernel
theorem dX5_fault_7 : decode cX5_fault 7 = .ok (.iconst (-1), 1) := by decide +kernel
theorem dX5_fault_8 : decode cX5_fault 8 = .ok (.goto 7, 3) := by decide +kernel
theorem dX5_fault_11 : decode cX5_fault 11 = .ok (.aload_n 0, 1) := by decide +kernel
theorem dX5_fault_12 : decode cX5_fault 12 = .ok (.getfield 122, 3) := by decide +kernel
theorem dX5_fault_15 : decode cX5_fault 15 = .ok (.ireturn, 1) := by decide +kernel
theorem dX5_doLine_0 : decode cX5_doLine 0 = .ok (.aload_n 0, 1) := by decide +kernel
theorem dX5_doLine_1 : decode cX5_doLine 1 = .ok (.getfield 29, 3) := by decide +kernel
theorem dX5_doLine_4 : decode cX5_doLine 4 = .ok (.iload_n 1, 1) := by decide +kernel
theorem dX5_doLine_5 : decode cX5_doLine 5 = .ok (.iconst 1, 1) := by decide +kernel
theorem dX5_doLine_6 : decode cX5_doLine 6 = .ok (.iadd, 1) := by decide +kernel
theorem dX5_doLine_7 : decode cX5_doLine 7 = .ok (.iaload, 1) := by decide +kernel
theorem dX5_doLine_8 : decode cX5_doLine 8 = .ok (.istore_n 2, 1) := by decide +kernel
theorem dX5_doLine_9 : decode cX5_doLine 9 = .ok (.aload_n 0, 1) := by decide +kernel
theorem dX5_doLine_10 : decode cX5_doLine 10 = .ok (.getfield 29, 3) := by decide +kernel
theorem dX5_doLine_13 : decode cX5_doLine 13 = .ok (.iload_n 1, 1) := by decide +kernel
theorem dX5_doLine_14 : decode cX5_doLine 14 = .ok (.iaload, 1) := by decide +kernel
theorem dX5_doLine_15 : decode cX5_doLine 15 = .ok (.tableswitch 93 5 10 #[37, 44, 61, 69, 77, 85], 37) := by decide +kernel
theorem dX5_doLine_52 : decode cX5_doLine 52 = .ok (.aload_n 0, 1) := by decide +kernel
theorem dX5_doLine_53 : decode cX5_doLine 53 = .ok (.invokevirtual 66, 3) := by decide +kernel
theorem dX5_doLine_56 : decode cX5_doLine 56 = .ok (.goto 96, 3) := by decide +kernel
theorem dX5_doLine_59 : decode cX5_doLine 59 = .ok (.aload_n 0, 1) := by decide +kernel
theorem dX5_doLine_60 : decode cX5_doLine 60 = .ok (.getfield 13, 3) := by decide +kernel
theorem dX5_doLine_63 : decode cX5_doLine 63 = .ok (.iload_n 2, 1) := by decide +kernel
theorem dX5_doLine_64 : decode cX5_doLine 64 = .ok (.aload_n 0, 1) := by decide +kernel
theorem dX5_doLine_65 : decode cX5_doLine 65 = .ok (.getfield 29, 3) := by decide +kernel
theorem dX5_doLine_68 : decode cX5_doLine 68 = .ok (.iload_n 1, 1) := by decide +kernel
theorem dX5_doLine_69 : decode cX5_doLine 69 = .ok (.iconst 2, 1) := by decide +kernel
theorem dX5_doLine_70 : decode cX5_doLine 70 = .ok (.iadd, 1) := by decide +kernel
theorem dX5_doLine_71 : decode cX5_doLine 71 = .ok (.iaload, 1) := by decide +kernel
theorem dX5_doLine_72 : decode cX5_doLine 72 = .ok (.iastore, 1) := by decide +kernel
theorem dX5_doLine_73 : decode cX5_doLine 73 = .ok (.goto 79, 3) := by decide +kernel
theorem dX5_doLine_76 : decode cX5_doLine 76 = .ok (.aload_n 0, 1) := by decide +kernel
theorem dX5_doLine_77 : decode cX5_doLine 77 = .ok (.iload_n 2, 1) := by decide +kernel
theorem dX5_doLine_78 : decode cX5_doLine 78 = .ok (.putfield 16, 3) := by decide +kernel
theorem dX5_doLine_81 : decode cX5_doLine 81 = .ok (.goto 71, 3) := by decide +kernel
theorem dX5_doLine_84 : decode cX5_doLine 84 = .ok (.aload_n 0, 1) := by decide +kernel
theorem dX5_doLine_85 : decode cX5_doLine 85 = .ok (.iload_n 2, 1) := by decide +kernel
theorem dX5_doLine_86 : decode cX5_doLine 86 = .ok (.putfield 20, 3) := by decide +kernel
theorem dX5_doLine_89 : decode cX5_doLine 89 = .ok (.goto 63, 3) := by decide +kernel
theorem dX5_doLine_92 : decode cX5_doLine 92 = .ok (.aload_n 0, 1) := by decide +kernel
theorem dX5_doLine_93 : decode cX5_doLine 93 = .ok (.iload_n 2, 1) := by decide +kernel
theorem dX5_doLine_94 : decode cX5_doLine 94 = .ok (.putfield 23, 3) := by decide +kernel
theorem dX5_doLine_97 : decode cX5_doLine 97 = .ok (.goto 55, 3) := by decide +kernel
theorem dX5_doLine_100 : decode cX5_doLine 100 = .ok (.aload_n 0, 1) := by decide +kernel
theorem dX5_doLine_101 : decode cX5_doLine 101 = .ok (.iconst 0, 1) := by decide +kernel
theorem dX5_doLine_102 : decode cX5_doLine 102 = .ok (.putfield 72, 3) := by decide +kernel
theorem dX5_doLine_105 : decode cX5_doLine 105 = .ok (.goto 47, 3) := by decide +kernel
theorem dX5_doLine_108 : decode cX5_doLine 108 = .ok (.iconst 0, 1) := by decide +kernel
theorem dX5_doLine_109 : decode cX5_doLine 109 = .ok (.istore_n 3, 1) := by decide +kernel
theorem dX5_doLine_110 : decode cX5_doLine 110 = .ok (.iload_n 3, 1) := by decide +kernel
theorem dX5_doLine_111 : decode cX5_doLine 111 = .ok (.iconst 4, 1) := by decide +kernel
theorem dX5_doLine_112 : decode cX5_doLine 112 = .ok (.if_icmp .ge 30, 3) := by decide +kernel
theorem dX5_doLine_115 : decode cX5_doLine 115 = .ok (.aload_n 0, 1) := by decide +kernel
theorem dX5_doLine_116 : decode cX5_doLine 116 = .ok (.getfield 7, 3) := by decide +kernel
theorem dX5_doLine_119 : decode cX5_doLine 119 = .ok (.iconst 4, 1) := by decide +kernel
theorem dX5_doLine_120 : decode cX5_doLine 120 = .ok (.aload_n 0, 1) := by decide +kernel
theorem dX5_doLine_121 : decode cX5_doLine 121 = .ok (.getfield 72, 3) := by decide +kernel
theorem dX5_doLine_124 : decode cX5_doLine 124 = .ok (.imul, 1) := by decide +kernel
theorem dX5_doLine_125 : decode cX5_doLine 125 = .ok (.iload_n 3, 1) := by decide +kernel
theorem dX5_doLine_126 : decode cX5_doLine 126 = .ok (.iadd, 1) := by decide +kernel
theorem dX5_doLine_127 : decode cX5_doLine 127 = .ok (.aload_n 0, 1) := by decide +kernel
theorem dX5_doLine_128 : decode cX5_doLine 128 = .ok (.getfield 29, 3) := by decide +kernel
theorem dX5_doLine_131 : decode cX5_doLine 131 = .ok (.iload_n 1, 1) := by decide +kernel
theorem dX5_doLine_132 : decode cX5_doLine 132 = .ok (.iload_n 3, 1) := by decide +kernel
theorem dX5_doLine_133 : decode cX5_doLine 133 = .ok (.iadd, 1) := by decide +kernel
theorem dX5_doLine_134 : decode cX5_doLine 134 = .ok (.iaload, 1) := by decide +kernel
theorem dX5_doLine_135 : decode cX5_doLine 135 = .ok (.iastore, 1) := by decide +kernel
theorem dX5_doLine_136 : decode cX5_doLine 136 = .ok (.iinc 3 1, 3) := by decide +kernel
theorem dX5_doLine_139 : decode cX5_doLine 139 = .ok (.goto (-29), 3) := by decide +kernel
theorem dX5_doLine_142 : decode cX5_doLine 142 = .ok (.aload_n 0, 1) := by decide +kernel
theorem dX5_doLine_143 : decode cX5_doLine 143 = .ok (.dup, 1) := by decide +kernel
theorem dX5_doLine_144 : decode cX5_doLine 144 = .ok (.getfield 72, 3) := by decide +kernel
theorem dX5_doLine_147 : decode cX5_doLine 147 = .ok (.iconst 1, 1) := by decide +kernel
theorem dX5_doLine_148 : decode cX5_doLine 148 = .ok (.iadd, 1) := by decide +kernel
theorem dX5_doLine_149 : decode cX5_doLine 149 = .ok (.putfield 72, 3) := by decide +kernel
theorem dX5_doLine_152 : decode cX5_doLine 152 = .ok (.return_, 1) := by decide +kernel
theorem dX5_court_0 : decode cX5_court 0 = .ok (.aload_n 0, 1) := by decide +kernel
theorem dX5_court_1 : decode cX5_court 1 = .ok (.invokevirtual 170, 3) := by decide +kernel
theorem dX5_court_4 : decode cX5_court 4 = .ok (.ifCond .ne 6, 3) := by decide +kernel
theorem dX5_court_7 : decode cX5_court 7 = .ok (.bipush (-4), 2) := by decide +kernel
theorem dX5_court_9 : decode cX5_court 9 = .ok (.ireturn, 1) := by decide +kernel
theorem dX5_court_10 : decode cX5_court 10 = .ok (.iconst 0, 1) := by decide +kernel
theorem dX5_court_11 : decode cX5_court 11 = .ok (.istore_n 1, 1) := by decide +kernel
theorem dX5_court_12 : decode cX5_court 12 = .ok (.iload_n 1, 1) := by decide +kernel
theorem dX5_court_13 : decode cX5_court 13 = .ok (.aload_n 0, 1) := by decide +kernel
theorem dX5_court_14 : decode cX5_court 14 = .ok (.getfield 164, 3) := by decide +kernel
theorem dX5_court_17 : decode cX5_court 17 = .ok (.if_icmp .ge 16, 3) := by decide +kernel
theorem dX5_court_20 : decode cX5_court 20 = .ok (.aload_n 0, 1) := by decide +kernel
theorem dX5_court_21 : decode cX5_court 21 = .ok (.iconst 5, 1) := by decide +kernel
theorem dX5_court_22 : decode cX5_court 22 = .ok (.iload_n 1, 1) := by decide +kernel
theorem dX5_court_23 : decode cX5_court 23 = .ok (.imul, 1) := by decide +kernel
theorem dX5_court_24 : decode cX5_court 24 = .ok (.invokevirtual 173, 3) := by decide +kernel
theorem dX5_court_27 : decode cX5_court 27 = .ok (.iinc 1 1, 3) := by decide +kernel
theorem dX5_court_30 : decode cX5_court 30 = .ok (.goto (-18), 3) := by decide +kernel
theorem dX5_court_33 : decode cX5_court 33 = .ok (.aload_n 0, 1) := by decide +kernel
theorem dX5_court_34 : decode cX5_court 34 = .ok (.iconst 0, 1) := by decide +kernel
theorem dX5_court_35 : decode cX5_court 35 = .ok (.putfield 91, 3) := by decide +kernel
theorem dX5_court_38 : decode cX5_court 38 = .ok (.aload_n 0, 1) := by decide +kernel
theorem dX5_court_39 : decode cX5_court 39 = .ok (.invokevirtual 69, 3) := by decide +kernel
theorem dX5_court_42 : decode cX5_court 42 = .ok (.aload_n 0, 1) := by decide +kernel
theorem dX5_court_43 : decode cX5_court 43 = .ok (.getfield 164, 3) := by decide +kernel
theorem dX5_court_46 : decode cX5_court 46 = .ok (.ireturn, 1) := by decide +kernel
theorem dX5_weighs_0 : decode cX5_weighs 0 = .ok (.aload_n 1, 1) := by decide +kernel
theorem dX5_weighs_1 : decode cX5_weighs 1 = .ok (.bipush 8, 2) := by decide +kernel
theorem dX5_weighs_3 : decode cX5_weighs 3 = .ok (.iaload, 1) := by decide +kernel
theorem dX5_weighs_4 : decode cX5_weighs 4 = .ok (.iload_n 2, 1) := by decide +kernel
theorem dX5_weighs_5 : decode cX5_weighs 5 = .ok (.invokestatic 177, 3) := by decide +kernel
theorem dX5_weighs_8 : decode cX5_weighs 8 = .ok (.ifCond .eq 7, 3) := by decide +kernel
theorem dX5_weighs_11 : decode cX5_weighs 11 = .ok (.iconst 0, 1) := by decide +kernel
theorem dX5_weighs_12 : decode cX5_weighs 12 = .ok (.goto 34, 3) := by decide +kernel
theorem dX5_weighs_15 : decode cX5_weighs 15 = .ok (.aload_n 1, 1) := by decide +kernel
theorem dX5_weighs_16 : decode cX5_weighs 16 = .ok (.iload_n 2, 1) := by decide +kernel
theorem dX5_weighs_17 : decode cX5_weighs 17 = .ok (.iaload, 1) := by decide +kernel
theorem dX5_weighs_18 : decode cX5_weighs 18 = .ok (.ifCond .le 18, 3) := by decide +kernel
theorem dX5_weighs_21 : decode cX5_weighs 21 = .ok (.iconst 3, 1) := by decide +kernel
theorem dX5_weighs_22 : decode cX5_weighs 22 = .ok (.aload_n 0, 1) := by decide +kernel
theorem dX5_weighs_23 : decode cX5_weighs 23 = .ok (.getfield 7, 3) := by decide +kernel
theorem dX5_weighs_26 : decode cX5_weighs 26 = .ok (.iconst 4, 1) := by decide +kernel
theorem dX5_weighs_27 : decode cX5_weighs 27 = .ok (.iload_n 2, 1) := by decide +kernel
theorem dX5_weighs_28 : decode cX5_weighs 28 = .ok (.imul, 1) := by decide +kernel
theorem dX5_weighs_29 : decode cX5_weighs 29 = .ok (.iconst 1, 1) := by decide +kernel
theorem dX5_weighs_30 : decode cX5_weighs 30 = .ok (.iadd, 1) := by decide +kernel
theorem dX5_weighs_31 : decode cX5_weighs 31 = .ok (.iaload, 1) := by decide +kernel
theorem dX5_weighs_32 : decode cX5_weighs 32 = .ok (.imul, 1) := by decide +kernel
theorem dX5_weighs_33 : decode cX5_weighs 33 = .ok (.goto 13, 3) := by decide +kernel
theorem dX5_weighs_36 : decode cX5_weighs 36 = .ok (.aload_n 0, 1) := by decide +kernel
theorem dX5_weighs_37 : decode cX5_weighs 37 = .ok (.getfield 7, 3) := by decide +kernel
theorem dX5_weighs_40 : decode cX5_weighs 40 = .ok (.iconst 4, 1) := by decide +kernel
theorem dX5_weighs_41 : decode cX5_weighs 41 = .ok (.iload_n 2, 1) := by decide +kernel
theorem dX5_weighs_42 : decode cX5_weighs 42 = .ok (.imul, 1) := by decide +kernel
theorem dX5_weighs_43 : decode cX5_weighs 43 = .ok (.iconst 1, 1) := by decide +kernel
theorem dX5_weighs_44 : decode cX5_weighs 44 = .ok (.iadd, 1) := by decide +kernel
theorem dX5_weighs_45 : decode cX5_weighs 45 = .ok (.iaload, 1) := by decide +kernel
theorem dX5_weighs_46 : decode cX5_weighs 46 = .ok (.ireturn, 1) := by decide +kernel
theorem dX5_loadOf_0 : decode cX5_loadOf 0 = .ok (.iconst 0, 1) := by decide +kernel
theorem dX5_loadOf_1 : decode cX5_loadOf 1 = .ok (.istore_n 3, 1) := by decide +kernel
theorem dX5_loadOf_2 : decode cX5_loadOf 2 = .ok (.iconst 0, 1) := by decide +kernel
theorem dX5_loadOf_3 : decode cX5_loadOf 3 = .ok (.istore 4, 2) := by decide +kernel
theorem dX5_loadOf_5 : decode cX5_loadOf 5 = .ok (.iload 4, 2) := by decide +kernel
theorem dX5_loadOf_7 : decode cX5_loadOf 7 = .ok (.aload_n 0, 1) := by decide +kernel
theorem dX5_loadOf_8 : decode cX5_loadOf 8 = .ok (.getfield 72, 3) := by decide +kernel
theorem dX5_loadOf_11 : decode cX5_loadOf 11 = .ok (.if_icmp .ge 33, 3) := by decide +kernel
theorem dX5_loadOf_14 : decode cX5_loadOf 14 = .ok (.iload_n 3, 1) := by decide +kernel
theorem dX5_loadOf_15 : decode cX5_loadOf 15 = .ok (.aload_n 0, 1) := by decide +kernel
theorem dX5_loadOf_16 : decode cX5_loadOf 16 = .ok (.iload 4, 2) := by decide +kernel
theorem dX5_loadOf_18 : decode cX5_loadOf 18 = .ok (.invokevirtual 181, 3) := by decide +kernel
theorem dX5_loadOf_21 : decode cX5_loadOf 21 = .ok (.iload_n 2, 1) := by decide +kernel
theorem dX5_loadOf_22 : decode cX5_loadOf 22 = .ok (.if_icmp .ne 13, 3) := by decide +kernel
theorem dX5_loadOf_25 : decode cX5_loadOf 25 = .ok (.aload_n 0, 1) := by decide +kernel
theorem dX5_loadOf_26 : decode cX5_loadOf 26 = .ok (.aload_n 1, 1) := by decide +kernel
theorem dX5_loadOf_27 : decode cX5_loadOf 27 = .ok (.iload 4, 2) := by decide +kernel
theorem dX5_loadOf_29 : decode cX5_loadOf 29 = .ok (.invokevirtual 185, 3) := by decide +kernel
theorem dX5_loadOf_32 : decode cX5_loadOf 32 = .ok (.goto 4, 3) := by decide +kernel
theorem dX5_loadOf_35 : decode cX5_loadOf 35 = .ok (.iconst 0, 1) := by decide +kernel
theorem dX5_loadOf_36 : decode cX5_loadOf 36 = .ok (.iadd, 1) := by decide +kernel
theorem dX5_loadOf_37 : decode cX5_loadOf 37 = .ok (.istore_n 3, 1) := by decide +kernel
theorem dX5_loadOf_38 : decode cX5_loadOf 38 = .ok (.iinc 4 1, 3) := by decide +kernel
theorem dX5_loadOf_41 : decode cX5_loadOf 41 = .ok (.goto (-36), 3) := by decide +kernel
theorem dX5_loadOf_44 : decode cX5_loadOf 44 = .ok (.iload_n 3, 1) := by decide +kernel
theorem dX5_loadOf_45 : decode cX5_loadOf 45 = .ok (.ireturn, 1) := by decide +kernel
theorem dX5_isThere_0 : decode cX5_isThere 0 = .ok (.aload_n 1, 1) := by decide +kernel
theorem dX5_isThere_1 : decode cX5_isThere 1 = .ok (.bipush 8, 2) := by decide +kernel
theorem dX5_isThere_3 : decode cX5_isThere 3 = .ok (.iaload, 1) := by decide +kernel
theorem dX5_isThere_4 : decode cX5_isThere 4 = .ok (.iload_n 2, 1) := by decide +kernel
theorem dX5_isThere_5 : decode cX5_isThere 5 = .ok (.invokestatic 177, 3) := by decide +kernel
theorem dX5_isThere_8 : decode cX5_isThere 8 = .ok (.ifCond .ne 22, 3) := by decide +kernel
theorem dX5_isThere_11 : decode cX5_isThere 11 = .ok (.aload_n 1, 1) := by decide +kernel
theorem dX5_isThere_12 : decode cX5_isThere 12 = .ok (.bipush 9, 2) := by decide +kernel
theorem dX5_isThere_14 : decode cX5_isThere 14 = .ok (.iaload, 1) := by decide +kernel
theorem dX5_isThere_15 : decode cX5_isThere 15 = .ok (.aload_n 0, 1) := by decide +kernel
theorem dX5_isThere_16 : decode cX5_isThere 16 = .ok (.iload_n 2, 1) := by decide +kernel
theorem dX5_isThere_17 : decode cX5_isThere 17 = .ok (.invokevirtual 181, 3) := by decide +kernel
theorem dX5_isThere_20 : decode cX5_isThere 20 = .ok (.invokestatic 177, 3) := by decide +kernel
theorem dX5_isThere_23 : decode cX5_isThere 23 = .ok (.ifCond .ne 7, 3) := by decide +kernel
theorem dX5_isThere_26 : decode cX5_isThere 26 = .ok (.iconst 1, 1) := by decide +kernel
theorem dX5_isThere_27 : decode cX5_isThere 27 = .ok (.goto 4, 3) := by decide +kernel
theorem dX5_isThere_30 : decode cX5_isThere 30 = .ok (.iconst 0, 1) := by decide +kernel
theorem dX5_isThere_31 : decode cX5_isThere 31 = .ok (.ireturn, 1) := by decide +kernel
theorem dX5_priceOf_0 : decode cX5_priceOf 0 = .ok (.aload_n 0, 1) := by decide +kernel
theorem dX5_priceOf_1 : decode cX5_priceOf 1 = .ok (.aload_n 1, 1) := by decide +kernel
theorem dX5_priceOf_2 : decode cX5_priceOf 2 = .ok (.iload_n 2, 1) := by decide +kernel
theorem dX5_priceOf_3 : decode cX5_priceOf 3 = .ok (.invokevirtual 189, 3) := by decide +kernel
theorem dX5_priceOf_6 : decode cX5_priceOf 6 = .ok (.ifCond .ne 7, 3) := by decide +kernel
theorem dX5_priceOf_9 : decode cX5_priceOf 9 = .ok (.iconst 0, 1) := by decide +kernel
theorem dX5_priceOf_10 : decode cX5_priceOf 10 = .ok (.goto 34, 3) := by decide +kernel
theorem dX5_priceOf_13 : decode cX5_priceOf 13 = .ok (.aload_n 1, 1) := by decide +kernel
theorem dX5_priceOf_14 : decode cX5_priceOf 14 = .ok (.iload_n 2, 1) := by decide +kernel
theorem dX5_priceOf_15 : decode cX5_priceOf 15 = .ok (.iaload, 1) := by decide +kernel
theorem dX5_priceOf_16 : decode cX5_priceOf 16 = .ok (.ifCond .le 18, 3) := by decide +kernel
theorem dX5_priceOf_19 : decode cX5_priceOf 19 = .ok (.iconst 3, 1) := by decide +kernel
theorem dX5_priceOf_20 : decode cX5_priceOf 20 = .ok (.aload_n 0, 1) := by decide +kernel
theorem dX5_priceOf_21 : decode cX5_priceOf 21 = .ok (.getfield 7, 3) := by decide +kernel
theorem dX5_priceOf_24 : decode cX5_priceOf 24 = .ok (.iconst 4, 1) := by decide +kernel
theorem dX5_priceOf_25 : decode cX5_priceOf 25 = .ok (.iload_n 2, 1) := by decide +kernel
theorem dX5_priceOf_26 : decode cX5_priceOf 26 = .ok (.imul, 1) := by decide +kernel
theorem dX5_priceOf_27 : decode cX5_priceOf 27 = .ok (.iconst 1, 1) := by decide +kernel
theorem dX5_priceOf_28 : decode cX5_priceOf 28 = .ok (.iadd, 1) := by decide +kernel
theorem dX5_priceOf_29 : decode cX5_priceOf 29 = .ok (.iaload, 1) := by decide +kernel
theorem dX5_priceOf_30 : decode cX5_priceOf 30 = .ok (.imul, 1) := by decide +kernel
theorem dX5_priceOf_31 : decode cX5_priceOf 31 = .ok (.goto 13, 3) := by decide +kernel
theorem dX5_priceOf_34 : decode cX5_priceOf 34 = .ok (.aload_n 0, 1) := by decide +kernel
theorem dX5_priceOf_35 : decode cX5_priceOf 35 = .ok (.getfield 7, 3) := by decide +kernel
theorem dX5_priceOf_38 : decode cX5_priceOf 38 = .ok (.iconst 4, 1) := by decide +kernel
theorem dX5_priceOf_39 : decode cX5_priceOf 39 = .ok (.iload_n 2, 1) := by decide +kernel
theorem dX5_priceOf_40 : decode cX5_priceOf 40 = .ok (.imul, 1) := by decide +kernel
theorem dX5_priceOf_41 : decode cX5_priceOf 41 = .ok (.iconst 2, 1) := by decide +kernel
theorem dX5_priceOf_42 : decode cX5_priceOf 42 = .ok (.iadd, 1) := by decide +kernel
theorem dX5_priceOf_43 : decode cX5_priceOf 43 = .ok (.iaload, 1) := by decide +kernel
theorem dX5_priceOf_44 : decode cX5_priceOf 44 = .ok (.ireturn, 1) := by decide +kernel
theorem dX5_pricesOf_0 : decode cX5_pricesOf 0 = .ok (.iconst 0, 1) := by decide +kernel
theorem dX5_pricesOf_1 : decode cX5_pricesOf 1 = .ok (.istore_n 2, 1) := by decide +kernel
theorem dX5_pricesOf_2 : decode cX5_pricesOf 2 = .ok (.iconst 0, 1) := by decide +kernel
theorem dX5_pricesOf_3 : decode cX5_pricesOf 3 = .ok (.istore_n 3, 1) := by decide +kernel
theorem dX5_pricesOf_4 : decode cX5_pricesOf 4 = .ok (.iload_n 3, 1) := by decide +kernel
theorem dX5_pricesOf_5 : decode cX5_pricesOf 5 = .ok (.aload_n 0, 1) := by decide +kernel
theorem dX5_pricesOf_6 : decode cX5_pricesOf 6 = .ok (.getfield 72, 3) := by decide +kernel
theorem dX5_pricesOf_9 : decode cX5_pricesOf 9 = .ok (.if_icmp .ge 18, 3) := by decide +kernel
theorem dX5_pricesOf_12 : decode cX5_pricesOf 12 = .ok (.iload_n 2, 1) := by decide +kernel
theorem dX5_pricesOf_13 : decode cX5_pricesOf 13 = .ok (.aload_n 0, 1) := by decide +kernel
theorem dX5_pricesOf_14 : decode cX5_pricesOf 14 = .ok (.aload_n 1, 1) := by decide +kernel
theorem dX5_pricesOf_15 : decode cX5_pricesOf 15 = .ok (.iload_n 3, 1) := by decide +kernel
theorem dX5_pricesOf_16 : decode cX5_pricesOf 16 = .ok (.invokevirtual 193, 3) := by decide +kernel
theorem dX5_pricesOf_19 : decode cX5_pricesOf 19 = .ok (.iadd, 1) := by decide +kernel
theorem dX5_pricesOf_20 : decode cX5_pricesOf 20 = .ok (.istore_n 2, 1) := by decide +kernel
theorem dX5_pricesOf_21 : decode cX5_pricesOf 21 = .ok (.iinc 3 1, 3) := by decide +kernel
theorem dX5_pricesOf_24 : decode cX5_pricesOf 24 = .ok (.goto (-20), 3) := by decide +kernel
theorem dX5_pricesOf_27 : decode cX5_pricesOf 27 = .ok (.iload_n 2, 1) := by decide +kernel
theorem dX5_pricesOf_28 : decode cX5_pricesOf 28 = .ok (.ireturn, 1) := by decide +kernel
theorem dX5_thing_0 : decode cX5_thing 0 = .ok (.aload_n 0, 1) := by decide +kernel
theorem dX5_thing_1 : decode cX5_thing 1 = .ok (.iload_n 1, 1) := by decide +kernel
theorem dX5_thing_2 : decode cX5_thing 2 = .ok (.invokevirtual 196, 3) := by decide +kernel
theorem dX5_thing_5 : decode cX5_thing 5 = .ok (.ifCond .ne 6, 3) := by decide +kernel
theorem dX5_thing_8 : decode cX5_thing 8 = .ok (.bipush (-2), 2) := by decide +kernel
theorem dX5_thing_10 : decode cX5_thing 10 = .ok (.ireturn, 1) := by decide +kernel
theorem dX5_thing_11 : decode cX5_thing 11 = .ok (.iload_n 2, 1) := by decide +kernel
theorem dX5_thing_12 : decode cX5_thing 12 = .ok (.tableswitch 84 0 6 #[44, 44, 44, 44, 55, 62, 74], 44) := by decide +kernel
theorem dX5_thing_56 : decode cX5_thing 56 = .ok (.aload_n 0, 1) := by decide +kernel
theorem dX5_thing_57 : decode cX5_thing 57 = .ok (.getfield 7, 3) := by decide +kernel
theorem dX5_thing_60 : decode cX5_thing 60 = .ok (.iconst 4, 1) := by decide +kernel
theorem dX5_thing_61 : decode cX5_thing 61 = .ok (.iload_n 1, 1) := by decide +kernel
theorem dX5_thing_62 : decode cX5_thing 62 = .ok (.imul, 1) := by decide +kernel
theorem dX5_thing_63 : decode cX5_thing 63 = .ok (.iload_n 2, 1) := by decide +kernel
theorem dX5_thing_64 : decode cX5_thing 64 = .ok (.iadd, 1) := by decide +kernel
theorem dX5_thing_65 : decode cX5_thing 65 = .ok (.iaload, 1) := by decide +kernel
theorem dX5_thing_66 : decode cX5_thing 66 = .ok (.ireturn, 1) := by decide +kernel
theorem dX5_thing_67 : decode cX5_thing 67 = .ok (.aload_n 0, 1) := by decide +kernel
theorem dX5_thing_68 : decode cX5_thing 68 = .ok (.getfield 32, 3) := by decide +kernel
theorem dX5_thing_71 : decode cX5_thing 71 = .ok (.iload_n 1, 1) := by decide +kernel
theorem dX5_thing_72 : decode cX5_thing 72 = .ok (.iaload, 1) := by decide +kernel
theorem dX5_thing_73 : decode cX5_thing 73 = .ok (.ireturn, 1) := by decide +kernel
theorem dX5_thing_74 : decode cX5_thing 74 = .ok (.aload_n 0, 1) := by decide +kernel
theorem dX5_thing_75 : decode cX5_thing 75 = .ok (.getfield 32, 3) := by decide +kernel
theorem dX5_thing_78 : decode cX5_thing 78 = .ok (.bipush 8, 2) := by decide +kernel
theorem dX5_thing_80 : decode cX5_thing 80 = .ok (.iaload, 1) := by decide +kernel
theorem dX5_thing_81 : decode cX5_thing 81 = .ok (.iload_n 1, 1) := by decide +kernel
theorem dX5_thing_82 : decode cX5_thing 82 = .ok (.ishr, 1) := by decide +kernel
theorem dX5_thing_83 : decode cX5_thing 83 = .ok (.iconst 1, 1) := by decide +kernel
theorem dX5_thing_84 : decode cX5_thing 84 = .ok (.iand, 1) := by decide +kernel
theorem dX5_thing_85 : decode cX5_thing 85 = .ok (.ireturn, 1) := by decide +kernel
theorem dX5_thing_86 : decode cX5_thing 86 = .ok (.aload_n 0, 1) := by decide +kernel
theorem dX5_thing_87 : decode cX5_thing 87 = .ok (.aload_n 0, 1) := by decide +kernel
theorem dX5_thing_88 : decode cX5_thing 88 = .ok (.getfield 32, 3) := by decide +kernel
theorem dX5_thing_91 : decode cX5_thing 91 = .ok (.iload_n 1, 1) := by decide +kernel
theorem dX5_thing_92 : decode cX5_thing 92 = .ok (.invokevirtual 193, 3) := by decide +kernel
theorem dX5_thing_95 : decode cX5_thing 95 = .ok (.ireturn, 1) := by decide +kernel
theorem dX5_thing_96 : decode cX5_thing 96 = .ok (.bipush (-3), 2) := by decide +kernel
theorem dX5_thing_98 : decode cX5_thing 98 = .ok (.ireturn, 1) := by decide +kernel
theorem dX5_as_0 : decode cX5_as 0 = .ok (.aload_n 0, 1) := by decide +kernel
theorem dX5_as_1 : decode cX5_as 1 = .ok (.iload_n 1, 1) := by decide +kernel
theorem dX5_as_2 : decode cX5_as 2 = .ok (.invokevirtual 196, 3) := by decide +kernel
theorem dX5_as_5 : decode cX5_as 5 = .ok (.ifCond .ne 6, 3) := by decide +kernel
theorem dX5_as_8 : decode cX5_as 8 = .ok (.bipush (-2), 2) := by decide +kernel
theorem dX5_as_10 : decode cX5_as 10 = .ok (.ireturn, 1) := by decide +kernel
theorem dX5_as_11 : decode cX5_as 11 = .ok (.iload_n 2, 1) := by decide +kernel
theorem dX5_as_12 : decode cX5_as 12 = .ok (.iconst 0, 1) := by decide +kernel
theorem dX5_as_13 : decode cX5_as 13 = .ok (.iconst 5, 1) := by decide +kernel
theorem dX5_as_14 : decode cX5_as 14 = .ok (.invokestatic 87, 3) := by decide +kernel
theorem dX5_as_17 : decode cX5_as 17 = .ok (.ifCond .ne 6, 3) := by decide +kernel
theorem dX5_as_20 : decode cX5_as 20 = .ok (.bipush (-3), 2) := by decide +kernel
theorem dX5_as_22 : decode cX5_as 22 = .ok (.ireturn, 1) := by decide +kernel
theorem dX5_as_23 : decode cX5_as 23 = .ok (.aload_n 0, 1) := by decide +kernel
theorem dX5_as_24 : decode cX5_as 24 = .ok (.iload_n 1, 1) := by decide +kernel
theorem dX5_as_25 : decode cX5_as 25 = .ok (.invokevirtual 199, 3) := by decide +kernel
theorem dX5_as_28 : decode cX5_as 28 = .ok (.istore_n 3, 1) := by decide +kernel
theorem dX5_as_29 : decode cX5_as 29 = .ok (.iload_n 2, 1) := by decide +kernel
theorem dX5_as_30 : decode cX5_as 30 = .ok (.ifCond .eq 23, 3) := by decide +kernel
theorem dX5_as_33 : decode cX5_as 33 = .ok (.iload_n 2, 1) := by decide +kernel
theorem dX5_as_34 : decode cX5_as 34 = .ok (.iconst 1, 1) := by decide +kernel
theorem dX5_as_35 : decode cX5_as 35 = .ok (.if_icmp .ne 11, 3) := by decide +kernel
theorem dX5_as_38 : decode cX5_as 38 = .ok (.iload_n 3, 1) := by decide +kernel
theorem dX5_as_39 : decode cX5_as 39 = .ok (.iconst 3, 1) := by decide +kernel
theorem dX5_as_40 : decode cX5_as 40 = .ok (.if_icmp .eq 17, 3) := by decide +kernel
theorem dX5_as_43 : decode cX5_as 43 = .ok (.goto 10, 3) := by decide +kernel
theorem dX5_as_46 : decode cX5_as 46 = .ok (.iload_n 3, 1) := by decide +kernel
theorem dX5_as_47 : decode cX5_as 47 = .ok (.iload_n 2, 1) := by decide +kernel
theorem dX5_as_48 : decode cX5_as 48 = .ok (.iconst 1, 1) := by decide +kernel
theorem dX5_as_49 : decode cX5_as 49 = .ok (.isub, 1) := by decide +kernel
theorem dX5_as_50 : decode cX5_as 50 = .ok (.if_icmp .ne 7, 3) := by decide +kernel
theorem dX5_as_53 : decode cX5_as 53 = .ok (.iconst 1, 1) := by decide +kernel
theorem dX5_as_54 : decode cX5_as 54 = .ok (.goto 4, 3) := by decide +kernel
theorem dX5_as_57 : decode cX5_as 57 = .ok (.iconst 0, 1) := by decide +kernel
theorem dX5_as_58 : decode cX5_as 58 = .ok (.istore 4, 2) := by decide +kernel
theorem dX5_as_60 : decode cX5_as 60 = .ok (.iload 4, 2) := by decide +kernel
theorem dX5_as_62 : decode cX5_as 62 = .ok (.ifCond .eq 15, 3) := by decide +kernel
theorem dX5_as_65 : decode cX5_as 65 = .ok (.aload_n 0, 1) := by decide +kernel
theorem dX5_as_66 : decode cX5_as 66 = .ok (.aload_n 0, 1) := by decide +kernel
theorem dX5_as_67 : decode cX5_as 67 = .ok (.getfield 32, 3) := by decide +kernel
theorem dX5_as_70 : decode cX5_as 70 = .ok (.iload_n 1, 1) := by decide +kernel
theorem dX5_as_71 : decode cX5_as 71 = .ok (.invokevirtual 185, 3) := by decide +kernel
theorem dX5_as_74 : decode cX5_as 74 = .ok (.goto 5, 3) := by decide +kernel
theorem dX5_as_77 : decode cX5_as 77 = .ok (.bipush (-4), 2) := by decide +kernel
theorem dX5_as_79 : decode cX5_as 79 = .ok (.ireturn, 1) := by decide +kernel
theorem dX5_isTask_0 : decode cX5_isTask 0 = .ok (.iconst 0, 1) := by decide +kernel
theorem dX5_isTask_1 : decode cX5_isTask 1 = .ok (.istore_n 2, 1) := by decide +kernel
theorem dX5_isTask_2 : decode cX5_isTask 2 = .ok (.iconst 0, 1) := by decide +kernel
theorem dX5_isTask_3 : decode cX5_isTask 3 = .ok (.istore_n 3, 1) := by decide +kernel
theorem dX5_isTask_4 : decode cX5_isTask 4 = .ok (.iload_n 3, 1) := by decide +kernel
theorem dX5_isTask_5 : decode cX5_isTask 5 = .ok (.aload_n 0, 1) := by decide +kernel
theorem dX5_isTask_6 : decode cX5_isTask 6 = .ok (.getfield 81, 3) := by decide +kernel
theorem dX5_isTask_9 : decode cX5_isTask 9 = .ok (.if_icmp .ge 29, 3) := by decide +kernel
theorem dX5_isTask_12 : decode cX5_isTask 12 = .ok (.iload_n 2, 1) := by decide +kernel
theorem dX5_isTask_13 : decode cX5_isTask 13 = .ok (.ifCond .ne 13, 3) := by decide +kernel
theorem dX5_isTask_16 : decode cX5_isTask 16 = .ok (.aload_n 0, 1) := by decide +kernel
theorem dX5_isTask_17 : decode cX5_isTask 17 = .ok (.getfield 51, 3) := by decide +kernel
theorem dX5_isTask_20 : decode cX5_isTask 20 = .ok (.iload_n 3, 1) := by decide +kernel
theorem dX5_isTask_21 : decode cX5_isTask 21 = .ok (.iaload, 1) := by decide +kernel
theorem dX5_isTask_22 : decode cX5_isTask 22 = .ok (.iload_n 1, 1) := by decide +kernel
theorem dX5_isTask_23 : decode cX5_isTask 23 = .ok (.if_icmp .ne 7, 3) := by decide +kernel
theorem dX5_isTask_26 : decode cX5_isTask 26 = .ok (.iconst 1, 1) := by decide +kernel
theorem dX5_isTask_27 : decode cX5_isTask 27 = .ok (.goto 4, 3) := by decide +kernel
theorem dX5_isTask_30 : decode cX5_isTask 30 = .ok (.iconst 0, 1) := by decide +kernel
theorem dX5_isTask_31 : decode cX5_isTask 31 = .ok (.istore_n 2, 1) := by decide +kernel
theorem dX5_isTask_32 : decode cX5_isTask 32 = .ok (.iinc 3 1, 3) := by decide +kernel
theorem dX5_isTask_35 : decode cX5_isTask 35 = .ok (.goto (-31), 3) := by decide +kernel
theorem dX5_isTask_38 : decode cX5_isTask 38 = .ok (.iload_n 2, 1) := by decide +kernel
theorem dX5_isTask_39 : decode cX5_isTask 39 = .ok (.ireturn, 1) := by decide +kernel
theorem dX5_toolOf_0 : decode cX5_toolOf 0 = .ok (.iconst (-1), 1) := by decide +kernel
theorem dX5_toolOf_1 : decode cX5_toolOf 1 = .ok (.istore_n 2, 1) := by decide +kernel
theorem dX5_toolOf_2 : decode cX5_toolOf 2 = .ok (.iconst 0, 1) := by decide +kernel
theorem dX5_toolOf_3 : decode cX5_toolOf 3 = .ok (.istore_n 3, 1) := by decide +kernel
theorem dX5_toolOf_4 : decode cX5_toolOf 4 = .ok (.iload_n 3, 1) := by decide +kernel
theorem dX5_toolOf_5 : decode cX5_toolOf 5 = .ok (.aload_n 0, 1) := by decide +kernel
theorem dX5_toolOf_6 : decode cX5_toolOf 6 = .ok (.getfield 72, 3) := by decide +kernel
theorem dX5_toolOf_9 : decode cX5_toolOf 9 = .ok (.if_icmp .ge 134, 3) := by decide +kernel
theorem dX5_toolOf_12 : decode cX5_toolOf 12 = .ok (.aload_n 0, 1) := by decide +kernel
theorem dX5_toolOf_13 : decode cX5_toolOf 13 = .ok (.iload_n 3, 1) := by decide +kernel
theorem dX5_toolOf_14 : decode cX5_toolOf 14 = .ok (.invokevirtual 199, 3) := by decide +kernel
theorem dX5_toolOf_17 : decode cX5_toolOf 17 = .ok (.iconst 1, 1) := by decide +kernel
theorem dX5_toolOf_18 : decode cX5_toolOf 18 = .ok (.if_icmp .ne 36, 3) := by decide +kernel
theorem dX5_toolOf_21 : decode cX5_toolOf 21 = .ok (.aload_n 0, 1) := by decide +kernel
theorem dX5_toolOf_22 : decode cX5_toolOf 22 = .ok (.iload_n 3, 1) := by decide +kernel
theorem dX5_toolOf_23 : decode cX5_toolOf 23 = .ok (.invokevirtual 181, 3) := by decide +kernel
theorem dX5_toolOf_26 : decode cX5_toolOf 26 = .ok (.iload_n 1, 1) := by decide +kernel
theorem dX5_toolOf_27 : decode cX5_toolOf 27 = .ok (.if_icmp .ne 27, 3) := by decide +kernel
theorem dX5_toolOf_30 : decode cX5_toolOf 30 = .ok (.aload_n 0, 1) := by decide +kernel
theorem dX5_toolOf_31 : decode cX5_toolOf 31 = .ok (.iload_n 3, 1) := by decide +kernel
theorem dX5_toolOf_32 : decode cX5_toolOf 32 = .ok (.invokevirtual 202, 3) := by decide +kernel
theorem dX5_toolOf_35 : decode cX5_toolOf 35 = .ok (.ifCond .ne 19, 3) := by decide +kernel
theorem dX5_toolOf_38 : decode cX5_toolOf 38 = .ok (.aload_n 0, 1) := by decide +kernel
theorem dX5_toolOf_39 : decode cX5_toolOf 39 = .ok (.aload_n 0, 1) := by decide +kernel
theorem dX5_toolOf_40 : decode cX5_toolOf 40 = .ok (.getfield 32, 3) := by decide +kernel
theorem dX5_toolOf_43 : decode cX5_toolOf 43 = .ok (.iload_n 3, 1) := by decide +kernel
theorem dX5_toolOf_44 : decode cX5_toolOf 44 = .ok (.invokevirtual 189, 3) := by decide +kernel
theorem dX5_toolOf_47 : decode cX5_toolOf 47 = .ok (.ifCond .eq 7, 3) := by decide +kernel
theorem dX5_toolOf_50 : decode cX5_toolOf 50 = .ok (.iconst 1, 1) := by decide +kernel
theorem dX5_toolOf_51 : decode cX5_toolOf 51 = .ok (.goto 4, 3) := by decide +kernel
theorem dX5_toolOf_54 : decode cX5_toolOf 54 = .ok (.iconst 0, 1) := by decide +kernel
theorem dX5_toolOf_55 : decode cX5_toolOf 55 = .ok (.istore 4, 2) := by decide +kernel
theorem dX5_toolOf_57 : decode cX5_toolOf 57 = .ok (.iload 4, 2) := by decide +kernel
theorem dX5_toolOf_59 : decode cX5_toolOf 59 = .ok (.ifCond .eq 78, 3) := by decide +kernel
theorem dX5_toolOf_62 : decode cX5_toolOf 62 = .ok (.aload_n 0, 1) := by decide +kernel
theorem dX5_toolOf_63 : decode cX5_toolOf 63 = .ok (.getfield 32, 3) := by decide +kernel
theorem dX5_toolOf_66 : decode cX5_toolOf 66 = .ok (.iload_n 3, 1) := by decide +kernel
theorem dX5_toolOf_67 : decode cX5_toolOf 67 = .ok (.iaload, 1) := by decide +kernel
theorem dX5_toolOf_68 : decode cX5_toolOf 68 = .ok (.iconst 2, 1) := by decide +kernel
theorem dX5_toolOf_69 : decode cX5_toolOf 69 = .ok (.if_icmp .ne 7, 3) := by decide +kernel
theorem dX5_toolOf_72 : decode cX5_toolOf 72 = .ok (.iconst 0, 1) := by decide +kernel
theorem dX5_toolOf_73 : decode cX5_toolOf 73 = .ok (.goto 13, 3) := by decide +kernel
theorem dX5_toolOf_76 : decode cX5_toolOf 76 = .ok (.aload_n 0, 1) := by decide +kernel
theorem dX5_toolOf_77 : decode cX5_toolOf 77 = .ok (.getfield 7, 3) := by decide +kernel
theorem dX5_toolOf_80 : decode cX5_toolOf 80 = .ok (.iconst 4, 1) := by decide +kernel
theorem dX5_toolOf_81 : decode cX5_toolOf 81 = .ok (.iload_n 3, 1) := by decide +kernel
theorem dX5_toolOf_82 : decode cX5_toolOf 82 = .ok (.imul, 1) := by decide +kernel
theorem dX5_toolOf_83 : decode cX5_toolOf 83 = .ok (.iconst 1, 1) := by decide +kernel
theorem dX5_toolOf_84 : decode cX5_toolOf 84 = .ok (.iadd, 1) := by decide +kernel
theorem dX5_toolOf_85 : decode cX5_toolOf 85 = .ok (.iaload, 1) := by decide +kernel
theorem dX5_toolOf_86 : decode cX5_toolOf 86 = .ok (.istore 5, 2) := by decide +kernel
theorem dX5_toolOf_88 : decode cX5_toolOf 88 = .ok (.iload_n 2, 1) := by decide +kernel
theorem dX5_toolOf_89 : decode cX5_toolOf 89 = .ok (.iconst (-1), 1) := by decide +kernel
theorem dX5_toolOf_90 : decode cX5_toolOf 90 = .ok (.if_icmp .ne 8, 3) := by decide +kernel
theorem dX5_toolOf_93 : decode cX5_toolOf 93 = .ok (.bipush 99, 2) := by decide +kernel
theorem dX5_toolOf_95 : decode cX5_toolOf 95 = .ok (.goto 27, 3) := by decide +kernel
theorem dX5_toolOf_98 : decode cX5_toolOf 98 = .ok (.aload_n 0, 1) := by decide +kernel
theorem dX5_toolOf_99 : decode cX5_toolOf 99 = .ok (.getfield 32, 3) := by decide +kernel
theorem dX5_toolOf_102 : decode cX5_toolOf 102 = .ok (.iload_n 2, 1) := by decide +kernel
theorem dX5_toolOf_103 : decode cX5_toolOf 103 = .ok (.iaload, 1) := by decide +kernel
theorem dX5_toolOf_104 : decode cX5_toolOf 104 = .ok (.iconst 2, 1) := by decide +kernel
theorem dX5_toolOf_105 : decode cX5_toolOf 105 = .ok (.if_icmp .ne 7, 3) := by decide +kernel
theorem dX5_toolOf_108 : decode cX5_toolOf 108 = .ok (.iconst 0, 1) := by decide +kernel
theorem dX5_toolOf_109 : decode cX5_toolOf 109 = .ok (.goto 13, 3) := by decide +kernel
theorem dX5_toolOf_112 : decode cX5_toolOf 112 = .ok (.aload_n 0, 1) := by decide +kernel
theorem dX5_toolOf_113 : decode cX5_toolOf 113 = .ok (.getfield 7, 3) := by decide +kernel
theorem dX5_toolOf_116 : decode cX5_toolOf 116 = .ok (.iconst 4, 1) := by decide +kernel
theorem dX5_toolOf_117 : decode cX5_toolOf 117 = .ok (.iload_n 2, 1) := by decide +kernel
theorem dX5_toolOf_118 : decode cX5_toolOf 118 = .ok (.imul, 1) := by decide +kernel
theorem dX5_toolOf_119 : decode cX5_toolOf 119 = .ok (.iconst 1, 1) := by decide +kernel
theorem dX5_toolOf_120 : decode cX5_toolOf 120 = .ok (.iadd, 1) := by decide +kernel
theorem dX5_toolOf_121 : decode cX5_toolOf 121 = .ok (.iaload, 1) := by decide +kernel
theorem dX5_toolOf_122 : decode cX5_toolOf 122 = .ok (.istore 6, 2) := by decide +kernel
theorem dX5_toolOf_124 : decode cX5_toolOf 124 = .ok (.iload 5, 2) := by decide +kernel
theorem dX5_toolOf_126 : decode cX5_toolOf 126 = .ok (.iload 6, 2) := by decide +kernel
theorem dX5_toolOf_128 : decode cX5_toolOf 128 = .ok (.if_icmp .ge 7, 3) := by decide +kernel
theorem dX5_toolOf_131 : decode cX5_toolOf 131 = .ok (.iload_n 3, 1) := by decide +kernel
theorem dX5_toolOf_132 : decode cX5_toolOf 132 = .ok (.goto 4, 3) := by decide +kernel
theorem dX5_toolOf_135 : decode cX5_toolOf 135 = .ok (.iload_n 2, 1) := by decide +kernel
theorem dX5_toolOf_136 : decode cX5_toolOf 136 = .ok (.istore_n 2, 1) := by decide +kernel
theorem dX5_toolOf_137 : decode cX5_toolOf 137 = .ok (.iinc 3 1, 3) := by decide +kernel
theorem dX5_toolOf_140 : decode cX5_toolOf 140 = .ok (.goto (-136), 3) := by decide +kernel
theorem dX5_toolOf_143 : decode cX5_toolOf 143 = .ok (.iload_n 2, 1) := by decide +kernel
theorem dX5_toolOf_144 : decode cX5_toolOf 144 = .ok (.ireturn, 1) := by decide +kernel
theorem dX5_floor_0 : decode cX5_floor 0 = .ok (.iload_n 1, 1) := by decide +kernel
theorem dX5_floor_1 : decode cX5_floor 1 = .ok (.iconst 0, 1) := by decide +kernel
theorem dX5_floor_2 : decode cX5_floor 2 = .ok (.iconst 2, 1) := by decide +kernel
theorem dX5_floor_3 : decode cX5_floor 3 = .ok (.invokestatic 87, 3) := by decide +kernel
theorem dX5_floor_6 : decode cX5_floor 6 = .ok (.ifCond .ne 6, 3) := by decide +kernel
theorem dX5_floor_9 : decode cX5_floor 9 = .ok (.bipush (-2), 2) := by decide +kernel
theorem dX5_floor_11 : decode cX5_floor 11 = .ok (.ireturn, 1) := by decide +kernel
theorem dX5_floor_12 : decode cX5_floor 12 = .ok (.iload_n 2, 1) := by decide +kernel
theorem dX5_floor_13 : decode cX5_floor 13 = .ok (.tableswitch 66 0 3 #[31, 38, 48, 60], 31) := by decide +kernel
theorem dX5_floor_44 : decode cX5_floor 44 = .ok (.aload_n 0, 1) := by decide +kernel
theorem dX5_floor_45 : decode cX5_floor 45 = .ok (.getfield 13, 3) := by decide +kernel
theorem dX5_floor_48 : decode cX5_floor 48 = .ok (.iload_n 1, 1) := by decide +kernel
theorem dX5_floor_49 : decode cX5_floor 49 = .ok (.iaload, 1) := by decide +kernel
theorem dX5_floor_50 : decode cX5_floor 50 = .ok (.ireturn, 1) := by decide +kernel
theorem dX5_floor_51 : decode cX5_floor 51 = .ok (.aload_n 0, 1) := by decide +kernel
theorem dX5_floor_52 : decode cX5_floor 52 = .ok (.aload_n 0, 1) := by decide +kernel
theorem dX5_floor_53 : decode cX5_floor 53 = .ok (.getfield 32, 3) := by decide +kernel
theorem dX5_floor_56 : decode cX5_floor 56 = .ok (.iload_n 1, 1) := by decide +kernel
theorem dX5_floor_57 : decode cX5_floor 57 = .ok (.invokevirtual 205, 3) := by decide +kernel
theorem dX5_floor_60 : decode cX5_floor 60 = .ok (.ireturn, 1) := by decide +kernel
theorem dX5_floor_61 : decode cX5_floor 61 = .ok (.aload_n 0, 1) := by decide +kernel
theorem dX5_floor_62 : decode cX5_floor 62 = .ok (.getfield 32, 3) := by decide +kernel
theorem dX5_floor_65 : decode cX5_floor 65 = .ok (.bipush 9, 2) := by decide +kernel
theorem dX5_floor_67 : decode cX5_floor 67 = .ok (.iaload, 1) := by decide +kernel
theorem dX5_floor_68 : decode cX5_floor 68 = .ok (.iload_n 1, 1) := by decide +kernel
theorem dX5_floor_69 : decode cX5_floor 69 = .ok (.ishr, 1) := by decide +kernel
theorem dX5_floor_70 : decode cX5_floor 70 = .ok (.iconst 1, 1) := by decide +kernel
theorem dX5_floor_71 : decode cX5_floor 71 = .ok (.iand, 1) := by decide +kernel
theorem dX5_floor_72 : decode cX5_floor 72 = .ok (.ireturn, 1) := by decide +kernel
theorem dX5_floor_73 : decode cX5_floor 73 = .ok (.aload_n 0, 1) := by decide +kernel
theorem dX5_floor_74 : decode cX5_floor 74 = .ok (.iload_n 1, 1) := by decide +kernel
theorem dX5_floor_75 : decode cX5_floor 75 = .ok (.invokevirtual 208, 3) := by decide +kernel
theorem dX5_floor_78 : decode cX5_floor 78 = .ok (.ireturn, 1) := by decide +kernel
theorem dX5_floor_79 : decode cX5_floor 79 = .ok (.bipush (-3), 2) := by decide +kernel
theorem dX5_floor_81 : decode cX5_floor 81 = .ok (.ireturn, 1) := by decide +kernel
theorem dX5_handBehind_0 : decode cX5_handBehind 0 = .ok (.iload_n 1, 1) := by decide +kernel
theorem dX5_handBehind_1 : decode cX5_handBehind 1 = .ok (.aload_n 0, 1) := by decide +kernel
theorem dX5_handBehind_2 : decode cX5_handBehind 2 = .ok (.getfield 16, 3) := by decide +kernel
theorem dX5_handBehind_5 : decode cX5_handBehind 5 = .ok (.if_icmp .gt 7, 3) := by decide +kernel
theorem dX5_handBehind_8 : decode cX5_handBehind 8 = .ok (.iconst 0, 1) := by decide +kernel
theorem dX5_handBehind_9 : decode cX5_handBehind 9 = .ok (.goto 21, 3) := by decide +kernel
theorem dX5_handBehind_12 : decode cX5_handBehind 12 = .ok (.iload_n 1, 1) := by decide +kernel
theorem dX5_handBehind_13 : decode cX5_handBehind 13 = .ok (.aload_n 0, 1) := by decide +kernel
theorem dX5_handBehind_14 : decode cX5_handBehind 14 = .ok (.getfield 16, 3) := by decide +kernel
theorem dX5_handBehind_17 : decode cX5_handBehind 17 = .ok (.aload_n 0, 1) := by decide +kernel
theorem dX5_handBehind_18 : decode cX5_handBehind 18 = .ok (.getfield 20, 3) := by decide +kernel
theorem dX5_handBehind_21 : decode cX5_handBehind 21 = .ok (.iadd, 1) := by decide +kernel
theorem dX5_handBehind_22 : decode cX5_handBehind 22 = .ok (.if_icmp .gt 7, 3) := by decide +kernel
theorem dX5_handBehind_25 : decode cX5_handBehind 25 = .ok (.iconst 1, 1) := by decide +kernel
theorem dX5_handBehind_26 : decode cX5_handBehind 26 = .ok (.goto 4, 3) := by decide +kernel
theorem dX5_handBehind_29 : decode cX5_handBehind 29 = .ok (.iconst 2, 1) := by decide +kernel
theorem dX5_handBehind_30 : decode cX5_handBehind 30 = .ok (.ireturn, 1) := by decide +kernel
theorem dX5_handIn_0 : decode cX5_handIn 0 = .ok (.bipush 99, 2) := by decide +kernel
theorem dX5_handIn_2 : decode cX5_handIn 2 = .ok (.istore_n 3, 1) := by decide +kernel
theorem dX5_handIn_3 : decode cX5_handIn 3 = .ok (.iconst 0, 1) := by decide +kernel
theorem dX5_handIn_4 : decode cX5_handIn 4 = .ok (.istore 4, 2) := by decide +kernel
theorem dX5_handIn_6 : decode cX5_handIn 6 = .ok (.iload 4, 2) := by decide +kernel
theorem dX5_handIn_8 : decode cX5_handIn 8 = .ok (.bipush 24, 2) := by decide +kernel
theorem dX5_handIn_10 : decode cX5_handIn 10 = .ok (.if_icmp .ge 33, 3) := by decide +kernel
theorem dX5_handIn_13 : decode cX5_handIn 13 = .ok (.iload_n 1, 1) := by decide +kernel
theorem dX5_handIn_14 : decode cX5_handIn 14 = .ok (.iload 4, 2) := by decide +kernel
theorem dX5_handIn_16 : decode cX5_handIn 16 = .ok (.invokestatic 177, 3) := by decide +kernel
theorem dX5_handIn_19 : decode cX5_handIn 19 = .ok (.ifCond .eq 16, 3) := by decide +kernel
theorem dX5_handIn_22 : decode cX5_handIn 22 = .ok (.iload 4, 2) := by decide +kernel
theorem dX5_handIn_24 : decode cX5_handIn 24 = .ok (.iload_n 2, 1) := by decide +kernel
theorem dX5_handIn_25 : decode cX5_handIn 25 = .ok (.if_icmp .ge 10, 3) := by decide +kernel
theorem dX5_handIn_28 : decode cX5_handIn 28 = .ok (.iload_n 2, 1) := by decide +kernel
theorem dX5_handIn_29 : decode cX5_handIn 29 = .ok (.iload 4, 2) := by decide +kernel
theorem dX5_handIn_31 : decode cX5_handIn 31 = .ok (.isub, 1) := by decide +kernel
theorem dX5_handIn_32 : decode cX5_handIn 32 = .ok (.goto 4, 3) := by decide +kernel
theorem dX5_handIn_35 : decode cX5_handIn 35 = .ok (.iload_n 3, 1) := by decide +kernel
theorem dX5_handIn_36 : decode cX5_handIn 36 = .ok (.istore_n 3, 1) := by decide +kernel
theorem dX5_handIn_37 : decode cX5_handIn 37 = .ok (.iinc 4 1, 3) := by decide +kernel
theorem dX5_handIn_40 : decode cX5_handIn 40 = .ok (.goto (-34), 3) := by decide +kernel
theorem dX5_handIn_43 : decode cX5_handIn 43 = .ok (.aload_n 0, 1) := by decide +kernel
theorem dX5_handIn_44 : decode cX5_handIn 44 = .ok (.iload_n 3, 1) := by decide +kernel
theorem dX5_handIn_45 : decode cX5_handIn 45 = .ok (.invokevirtual 211, 3) := by decide +kernel
theorem dX5_handIn_48 : decode cX5_handIn 48 = .ok (.ireturn, 1) := by decide +kernel
theorem dX5_hand_0 : decode cX5_hand 0 = .ok (.iload_n 1, 1) := by decide +kernel
theorem dX5_hand_1 : decode cX5_hand 1 = .ok (.iconst 0, 1) := by decide +kernel
theorem dX5_hand_2 : decode cX5_hand 2 = .ok (.bipush 99, 2) := by decide +kernel
theorem dX5_hand_4 : decode cX5_hand 4 = .ok (.invokestatic 87, 3) := by decide +kernel
theorem dX5_hand_7 : decode cX5_hand 7 = .ok (.ifCond .eq 18, 3) := by decide +kernel
theorem dX5_hand_10 : decode cX5_hand 10 = .ok (.aload_n 0, 1) := by decide +kernel
theorem dX5_hand_11 : decode cX5_hand 11 = .ok (.aload_n 0, 1) := by decide +kernel
theorem dX5_hand_12 : decode cX5_hand 12 = .ok (.getfield 32, 3) := by decide +kernel
theorem dX5_hand_15 : decode cX5_hand 15 = .ok (.bipush 11, 2) := by decide +kernel
theorem dX5_hand_17 : decode cX5_hand 17 = .ok (.iaload, 1) := by decide +kernel
theorem dX5_hand_18 : decode cX5_hand 18 = .ok (.iload_n 1, 1) := by decide +kernel
theorem dX5_hand_19 : decode cX5_hand 19 = .ok (.invokevirtual 214, 3) := by decide +kernel
theorem dX5_hand_22 : decode cX5_hand 22 = .ok (.goto 5, 3) := by decide +kernel
theorem dX5_hand_25 : decode cX5_hand 25 = .ok (.bipush (-3), 2) := by decide +kernel
theorem dX5_hand_27 : decode cX5_hand 27 = .ok (.ireturn, 1) := by decide +kernel
theorem dX5_note_0 : decode cX5_note 0 = .ok (.aload_n 0, 1) := by decide +kernel
theorem dX5_note_1 : decode cX5_note 1 = .ok (.getfield 75, 3) := by decide +kernel
theorem dX5_note_4 : decode cX5_note 4 = .ok (.bipush 8, 2) := by decide +kernel
theorem dX5_note_6 : decode cX5_note 6 = .ok (.if_icmp .ne 42, 3) := by decide +kernel
theorem dX5_note_9 : decode cX5_note 9 = .ok (.iconst 0, 1) := by decide +kernel
theorem dX5_note_10 : decode cX5_note 10 = .ok (.istore_n 1, 1) := by decide +kernel
theorem dX5_note_11 : decode cX5_note 11 = .ok (.iload_n 1, 1) := by decide +kernel
theorem dX5_note_12 : decode cX5_note 12 = .ok (.bipush 84, 2) := by decide +kernel
theorem dX5_note_14 : decode cX5_note 14 = .ok (.if_icmp .ge 24, 3) := by decide +kernel
theorem dX5_note_17 : decode cX5_note 17 = .ok (.aload_n 0, 1) := by decide +kernel
theorem dX5_note_18 : decode cX5_note 18 = .ok (.getfield 45, 3) := by decide +kernel
theorem dX5_note_21 : decode cX5_note 21 = .ok (.iload_n 1, 1) := by decide +kernel
theorem dX5_note_22 : decode cX5_note 22 = .ok (.aload_n 0, 1) := by decide +kernel
theorem dX5_note_23 : decode cX5_note 23 = .ok (.getfield 45, 3) := by decide +kernel
theorem dX5_note_26 : decode cX5_note 26 = .ok (.iload_n 1, 1) := by decide +kernel
theorem dX5_note_27 : decode cX5_note 27 = .ok (.bipush 12, 2) := by decide +kernel
theorem dX5_note_29 : decode cX5_note 29 = .ok (.iadd, 1) := by decide +kernel
theorem dX5_note_30 : decode cX5_note 30 = .ok (.iaload, 1) := by decide +kernel
theorem dX5_note_31 : decode cX5_note 31 = .ok (.iastore, 1) := by decide +kernel
theorem dX5_note_32 : decode cX5_note 32 = .ok (.iinc 1 1, 3) := by decide +kernel
theorem dX5_note_35 : decode cX5_note 35 = .ok (.goto (-24), 3) := by decide +kernel
theorem dX5_note_38 : decode cX5_note 38 = .ok (.aload_n 0, 1) := by decide +kernel
theorem dX5_note_39 : decode cX5_note 39 = .ok (.dup, 1) := by decide +kernel
theorem dX5_note_40 : decode cX5_note 40 = .ok (.getfield 75, 3) := by decide +kernel
theorem dX5_note_43 : decode cX5_note 43 = .ok (.iconst 1, 1) := by decide +kernel
theorem dX5_note_44 : decode cX5_note 44 = .ok (.isub, 1) := by decide +kernel
theorem dX5_note_45 : decode cX5_note 45 = .ok (.putfield 75, 3) := by decide +kernel
theorem dX5_note_48 : decode cX5_note 48 = .ok (.aload_n 0, 1) := by decide +kernel
theorem dX5_note_49 : decode cX5_note 49 = .ok (.getfield 32, 3) := by decide +kernel
theorem dX5_note_52 : decode cX5_note 52 = .ok (.iconst 0, 1) := by decide +kernel
theorem dX5_note_53 : decode cX5_note 53 = .ok (.aload_n 0, 1) := by decide +kernel
theorem dX5_note_54 : decode cX5_note 54 = .ok (.getfield 45, 3) := by decide +kernel
theorem dX5_note_57 : decode cX5_note 57 = .ok (.bipush 12, 2) := by decide +kernel
theorem dX5_note_59 : decode cX5_note 59 = .ok (.aload_n 0, 1) := by decide +kernel
theorem dX5_note_60 : decode cX5_note 60 = .ok (.getfield 75, 3) := by decide +kernel
theorem dX5_note_63 : decode cX5_note 63 = .ok (.imul, 1) := by decide +kernel
theorem dX5_note_64 : decode cX5_note 64 = .ok (.invokestatic 218, 3) := by decide +kernel
theorem dX5_note_67 : decode cX5_note 67 = .ok (.aload_n 0, 1) := by decide +kernel
theorem dX5_note_68 : decode cX5_note 68 = .ok (.dup, 1) := by decide +kernel
theorem dX5_note_69 : decode cX5_note 69 = .ok (.getfield 75, 3) := by decide +kernel
theorem dX5_note_72 : decode cX5_note 72 = .ok (.iconst 1, 1) := by decide +kernel
theorem dX5_note_73 : decode cX5_note 73 = .ok (.iadd, 1) := by decide +kernel
theorem dX5_note_74 : decode cX5_note 74 = .ok (.putfield 75, 3) := by decide +kernel
theorem dX5_note_77 : decode cX5_note 77 = .ok (.return_, 1) := by decide +kernel
theorem dX5_copy_0 : decode cX5_copy 0 = .ok (.iconst 0, 1) := by decide +kernel
theorem dX5_copy_1 : decode cX5_copy 1 = .ok (.istore 4, 2) := by decide +kernel
theorem dX5_copy_3 : decode cX5_copy 3 = .ok (.iload 4, 2) := by decide +kernel
theorem dX5_copy_5 : decode cX5_copy 5 = .ok (.bipush 12, 2) := by decide +kernel
theorem dX5_copy_7 : decode cX5_copy 7 = .ok (.if_icmp .ge 21, 3) := by decide +kernel
theorem dX5_copy_10 : decode cX5_copy 10 = .ok (.aload_n 2, 1) := by decide +kernel
theorem dX5_copy_11 : decode cX5_copy 11 = .ok (.iload_n 3, 1) := by decide +kernel
theorem dX5_copy_12 : decode cX5_copy 12 = .ok (.iload 4, 2) := by decide +kernel
theorem dX5_copy_14 : decode cX5_copy 14 = .ok (.iadd, 1) := by decide +kernel
theorem dX5_copy_15 : decode cX5_copy 15 = .ok (.aload_n 0, 1) := by decide +kernel
theorem dX5_copy_16 : decode cX5_copy 16 = .ok (.iload_n 1, 1) := by decide +kernel
theorem dX5_copy_17 : decode cX5_copy 17 = .ok (.iload 4, 2) := by decide +kernel
theorem dX5_copy_19 : decode cX5_copy 19 = .ok (.iadd, 1) := by decide +kernel
theorem dX5_copy_20 : decode cX5_copy 20 = .ok (.iaload, 1) := by decide +kernel
theorem dX5_copy_21 : decode cX5_copy 21 = .ok (.iastore, 1) := by decide +kernel
theorem dX5_copy_22 : decode cX5_copy 22 = .ok (.iinc 4 1, 3) := by decide +kernel
theorem dX5_copy_25 : decode cX5_copy 25 = .ok (.goto (-22), 3) := by decide +kernel
theorem dX5_copy_28 : decode cX5_copy 28 = .ok (.return_, 1) := by decide +kernel
theorem dX5_touches_0 : decode cX5_touches 0 = .ok (.aload_n 0, 1) := by decide +kernel
theorem dX5_touches_1 : decode cX5_touches 1 = .ok (.aload_n 0, 1) := by decide +kernel
theorem dX5_touches_2 : decode cX5_touches 2 = .ok (.getfield 32, 3) := by decide +kernel
theorem dX5_touches_5 : decode cX5_touches 5 = .ok (.bipush 11, 2) := by decide +kernel
theorem dX5_touches_7 : decode cX5_touches 7 = .ok (.iaload, 1) := by decide +kernel
theorem dX5_touches_8 : decode cX5_touches 8 = .ok (.aload_n 0, 1) := by decide +kernel
theorem dX5_touches_9 : decode cX5_touches 9 = .ok (.getfield 32, 3) := by decide +kernel
theorem dX5_touches_12 : decode cX5_touches 12 = .ok (.bipush 10, 2) := by decide +kernel
theorem dX5_touches_14 : decode cX5_touches 14 = .ok (.iaload, 1) := by decide +kernel
theorem dX5_touches_15 : decode cX5_touches 15 = .ok (.invokevirtual 214, 3) := by decide +kernel
theorem dX5_touches_18 : decode cX5_touches 18 = .ok (.istore_n 2, 1) := by decide +kernel
theorem dX5_touches_19 : decode cX5_touches 19 = .ok (.iload_n 2, 1) := by decide +kernel
theorem dX5_touches_20 : decode cX5_touches 20 = .ok (.iconst 2, 1) := by decide +kernel
theorem dX5_touches_21 : decode cX5_touches 21 = .ok (.if_icmp .eq 22, 3) := by decide +kernel
theorem dX5_touches_24 : decode cX5_touches 24 = .ok (.iload_n 2, 1) := by decide +kernel
theorem dX5_touches_25 : decode cX5_touches 25 = .ok (.iconst 1, 1) := by decide +kernel
theorem dX5_touches_26 : decode cX5_touches 26 = .ok (.if_icmp .ne 27, 3) := by decide +kernel
theorem dX5_touches_29 : decode cX5_touches 29 = .ok (.aload_n 0, 1) := by decide +kernel
theorem dX5_touches_30 : decode cX5_touches 30 = .ok (.getfield 32, 3) := by decide +kernel
theorem dX5_touches_33 : decode cX5_touches 33 = .ok (.bipush 10, 2) := by decide +kernel
theorem dX5_touches_35 : decode cX5_touches 35 = .ok (.iaload, 1) := by decide +kernel
theorem dX5_touches_36 : decode cX5_touches 36 = .ok (.aload_n 0, 1) := by decide +kernel
theorem dX5_touches_37 : decode cX5_touches 37 = .ok (.getfield 23, 3) := by decide +kernel
theorem dX5_touches_40 : decode cX5_touches 40 = .ok (.if_icmp .lt 13, 3) := by decide +kernel
theorem dX5_touches_43 : decode cX5_touches 43 = .ok (.aload_n 0, 1) := by decide +kernel
theorem dX5_touches_44 : decode cX5_touches 44 = .ok (.getfield 32, 3) := by decide +kernel
theorem dX5_touches_47 : decode cX5_touches 47 = .ok (.iload_n 1, 1) := by decide +kernel
theorem dX5_touches_48 : decode cX5_touches 48 = .ok (.iconst 2, 1) := by decide +kernel
theorem dX5_touches_49 : decode cX5_touches 49 = .ok (.iastore, 1) := by decide +kernel
theorem dX5_touches_50 : decode cX5_touches 50 = .ok (.goto 24, 3) := by decide +kernel
theorem dX5_touches_53 : decode cX5_touches 53 = .ok (.iload_n 2, 1) := by decide +kernel
theorem dX5_touches_54 : decode cX5_touches 54 = .ok (.iconst 1, 1) := by decide +kernel
theorem dX5_touches_55 : decode cX5_touches 55 = .ok (.if_icmp .ne 19, 3) := by decide +kernel
theorem dX5_touches_58 : decode cX5_touches 58 = .ok (.aload_n 0, 1) := by decide +kernel
theorem dX5_touches_59 : decode cX5_touches 59 = .ok (.getfield 32, 3) := by decide +kernel
theorem dX5_touches_62 : decode cX5_touches 62 = .ok (.iload_n 1, 1) := by decide +kernel
theorem dX5_touches_63 : decode cX5_touches 63 = .ok (.iaload, 1) := by decide +kernel
theorem dX5_touches_64 : decode cX5_touches 64 = .ok (.ifCond .ne 10, 3) := by decide +kernel
theorem dX5_touches_67 : decode cX5_touches 67 = .ok (.aload_n 0, 1) := by decide +kernel
theorem dX5_touches_68 : decode cX5_touches 68 = .ok (.getfield 32, 3) := by decide +kernel
theorem dX5_touches_71 : decode cX5_touches 71 = .ok (.iload_n 1, 1) := by decide +kernel
theorem dX5_touches_72 : decode cX5_touches 72 = .ok (.iconst 1, 1) := by decide +kernel
theorem dX5_touches_73 : decode cX5_touches 73 = .ok (.iastore, 1) := by decide +kernel
theorem dX5_touches_74 : decode cX5_touches 74 = .ok (.return_, 1) := by decide +kernel
theorem dX5_pass_0 : decode cX5_pass 0 = .ok (.iconst 0, 1) := by decide +kernel
theorem dX5_pass_1 : decode cX5_pass 1 = .ok (.istore_n 2, 1) := by decide +kernel
theorem dX5_pass_2 : decode cX5_pass 2 = .ok (.iload_n 2, 1) := by decide +kernel
theorem dX5_pass_3 : decode cX5_pass 3 = .ok (.iconst 3, 1) := by decide +kernel
theorem dX5_pass_4 : decode cX5_pass 4 = .ok (.if_icmp .ge 40, 3) := by decide +kernel
theorem dX5_pass_7 : decode cX5_pass 7 = .ok (.aload_n 1, 1) := by decide +kernel
theorem dX5_pass_8 : decode cX5_pass 8 = .ok (.bipush 9, 2) := by decide +kernel
theorem dX5_pass_10 : decode cX5_pass 10 = .ok (.aload_n 1, 1) := by decide +kernel
theorem dX5_pass_11 : decode cX5_pass 11 = .ok (.bipush 9, 2) := by decide +kernel
theorem dX5_pass_13 : decode cX5_pass 13 = .ok (.iaload, 1) := by decide +kernel
theorem dX5_pass_14 : decode cX5_pass 14 = .ok (.aload_n 0, 1) := by decide +kernel
theorem dX5_pass_15 : decode cX5_pass 15 = .ok (.aload_n 1, 1) := by decide +kernel
theorem dX5_pass_16 : decode cX5_pass 16 = .ok (.iload_n 2, 1) := by decide +kernel
theorem dX5_pass_17 : decode cX5_pass 17 = .ok (.invokevirtual 205, 3) := by decide +kernel
theorem dX5_pass_20 : decode cX5_pass 20 = .ok (.aload_n 0, 1) := by decide +kernel
theorem dX5_pass_21 : decode cX5_pass 21 = .ok (.getfield 13, 3) := by decide +kernel
theorem dX5_pass_24 : decode cX5_pass 24 = .ok (.iload_n 2, 1) := by decide +kernel
theorem dX5_pass_25 : decode cX5_pass 25 = .ok (.iaload, 1) := by decide +kernel
theorem dX5_pass_26 : decode cX5_pass 26 = .ok (.if_icmp .le 9, 3) := by decide +kernel
theorem dX5_pass_29 : decode cX5_pass 29 = .ok (.iconst 1, 1) := by decide +kernel
theorem dX5_pass_30 : decode cX5_pass 30 = .ok (.iload_n 2, 1) := by decide +kernel
theorem dX5_pass_31 : decode cX5_pass 31 = .ok (.ishl, 1) := by decide +kernel
theorem dX5_pass_32 : decode cX5_pass 32 = .ok (.goto 4, 3) := by decide +kernel
theorem dX5_pass_35 : decode cX5_pass 35 = .ok (.iconst 0, 1) := by decide +kernel
theorem dX5_pass_36 : decode cX5_pass 36 = .ok (.ior, 1) := by decide +kernel
theorem dX5_pass_37 : decode cX5_pass 37 = .ok (.iastore, 1) := by decide +kernel
theorem dX5_pass_38 : decode cX5_pass 38 = .ok (.iinc 2 1, 3) := by decide +kernel
theorem dX5_pass_41 : decode cX5_pass 41 = .ok (.goto (-39), 3) := by decide +kernel
theorem dX5_pass_44 : decode cX5_pass 44 = .ok (.aload_n 1, 1) := by decide +kernel
theorem dX5_pass_45 : decode cX5_pass 45 = .ok (.bipush 10, 2) := by decide +kernel
theorem dX5_pass_47 : decode cX5_pass 47 = .ok (.dup2, 1) := by decide +kernel
theorem dX5_pass_48 : decode cX5_pass 48 = .ok (.iaload, 1) := by decide +kernel
theorem dX5_pass_49 : decode cX5_pass 49 = .ok (.iconst 1, 1) := by decide +kernel
theorem dX5_pass_50 : decode cX5_pass 50 = .ok (.iadd, 1) := by decide +kernel
theorem dX5_pass_51 : decode cX5_pass 51 = .ok (.iastore, 1) := by decide +kernel
theorem dX5_pass_52 : decode cX5_pass 52 = .ok (.iconst 0, 1) := by decide +kernel
theorem dX5_pass_53 : decode cX5_pass 53 = .ok (.istore_n 2, 1) := by decide +kernel
theorem dX5_pass_54 : decode cX5_pass 54 = .ok (.iload_n 2, 1) := by decide +kernel
theorem dX5_pass_55 : decode cX5_pass 55 = .ok (.aload_n 0, 1) := by decide +kernel
theorem dX5_pass_56 : decode cX5_pass 56 = .ok (.getfield 72, 3) := by decide +kernel
theorem dX5_pass_59 : decode cX5_pass 59 = .ok (.if_icmp .ge 37, 3) := by decide +kernel
theorem dX5_pass_62 : decode cX5_pass 62 = .ok (.aload_n 1, 1) := by decide +kernel
theorem dX5_pass_63 : decode cX5_pass 63 = .ok (.bipush 10, 2) := by decide +kernel
theorem dX5_pass_65 : decode cX5_pass 65 = .ok (.iaload, 1) := by decide +kernel
theorem dX5_pass_66 : decode cX5_pass 66 = .ok (.aload_n 0, 1) := by decide +kernel
theorem dX5_pass_67 : decode cX5_pass 67 = .ok (.getfield 23, 3) := by decide +kernel
theorem dX5_pass_70 : decode cX5_pass 70 = .ok (.if_icmp .ne 26, 3) := by decide +kernel
theorem dX5_pass_73 : decode cX5_pass 73 = .ok (.aload_n 1, 1) := by decide +kernel
theorem dX5_pass_74 : decode cX5_pass 74 = .ok (.iload_n 2, 1) := by decide +kernel
theorem dX5_pass_75 : decode cX5_pass 75 = .ok (.aload_n 1, 1) := by decide +kernel
theorem dX5_pass_76 : decode cX5_pass 76 = .ok (.iload_n 2, 1) := by decide +kernel
theorem dX5_pass_77 : decode cX5_pass 77 = .ok (.iaload, 1) := by decide +kernel
theorem dX5_pass_78 : decode cX5_pass 78 = .ok (.iconst 1, 1) := by decide +kernel
theorem dX5_pass_79 : decode cX5_pass 79 = .ok (.if_icmp .ne 7, 3) := by decide +kernel
theorem dX5_pass_82 : decode cX5_pass 82 = .ok (.iconst 0, 1) := by decide +kernel
theorem dX5_pass_83 : decode cX5_pass 83 = .ok (.goto 6, 3) := by decide +kernel
theorem dX5_pass_86 : decode cX5_pass 86 = .ok (.aload_n 1, 1) := by decide +kernel
theorem dX5_pass_87 : decode cX5_pass 87 = .ok (.iload_n 2, 1) := by decide +kernel
theorem dX5_pass_88 : decode cX5_pass 88 = .ok (.iaload, 1) := by decide +kernel
theorem dX5_pass_89 : decode cX5_pass 89 = .ok (.iastore, 1) := by decide +kernel
theorem dX5_pass_90 : decode cX5_pass 90 = .ok (.iinc 2 1, 3) := by decide +kernel
theorem dX5_pass_93 : decode cX5_pass 93 = .ok (.goto (-39), 3) := by decide +kernel
theorem dX5_pass_96 : decode cX5_pass 96 = .ok (.return_, 1) := by decide +kernel
theorem dX5_touch_0 : decode cX5_touch 0 = .ok (.aload_n 0, 1) := by decide +kernel
theorem dX5_touch_1 : decode cX5_touch 1 = .ok (.iload_n 1, 1) := by decide +kernel
theorem dX5_touch_2 : decode cX5_touch 2 = .ok (.invokevirtual 196, 3) := by decide +kernel
theorem dX5_touch_5 : decode cX5_touch 5 = .ok (.ifCond .ne 6, 3) := by decide +kernel
theorem dX5_touch_8 : decode cX5_touch 8 = .ok (.bipush (-2), 2) := by decide +kernel
theorem dX5_touch_10 : decode cX5_touch 10 = .ok (.ireturn, 1) := by decide +kernel
theorem dX5_touch_11 : decode cX5_touch 11 = .ok (.aload_n 0, 1) := by decide +kernel
theorem dX5_touch_12 : decode cX5_touch 12 = .ok (.aload_n 0, 1) := by decide +kernel
theorem dX5_touch_13 : decode cX5_touch 13 = .ok (.getfield 32, 3) := by decide +kernel
theorem dX5_touch_16 : decode cX5_touch 16 = .ok (.iload_n 1, 1) := by decide +kernel
theorem dX5_touch_17 : decode cX5_touch 17 = .ok (.invokevirtual 189, 3) := by decide +kernel
theorem dX5_touch_20 : decode cX5_touch 20 = .ok (.ifCond .ne 6, 3) := by decide +kernel
theorem dX5_touch_23 : decode cX5_touch 23 = .ok (.bipush (-4), 2) := by decide +kernel
theorem dX5_touch_25 : decode cX5_touch 25 = .ok (.ireturn, 1) := by decide +kernel
theorem dX5_touch_26 : decode cX5_touch 26 = .ok (.aload_n 0, 1) := by decide +kernel
theorem dX5_touch_27 : decode cX5_touch 27 = .ok (.getfield 32, 3) := by decide +kernel
theorem dX5_touch_30 : decode cX5_touch 30 = .ok (.bipush 10, 2) := by decide +kernel
theorem dX5_touch_32 : decode cX5_touch 32 = .ok (.iaload, 1) := by decide +kernel
theorem dX5_touch_33 : decode cX5_touch 33 = .ok (.bipush 24, 2) := by decide +kernel
theorem dX5_touch_35 : decode cX5_touch 35 = .ok (.if_icmp .ne 6, 3) := by decide +kernel
theorem dX5_touch_38 : decode cX5_touch 38 = .ok (.bipush (-5), 2) := by decide +kernel
theorem dX5_touch_40 : decode cX5_touch 40 = .ok (.ireturn, 1) := by decide +kernel
theorem dX5_touch_41 : decode cX5_touch 41 = .ok (.aload_n 0, 1) := by decide +kernel
theorem dX5_touch_42 : decode cX5_touch 42 = .ok (.invokevirtual 222, 3) := by decide +kernel
theorem dX5_touch_45 : decode cX5_touch 45 = .ok (.aload_n 0, 1) := by decide +kernel
theorem dX5_touch_46 : decode cX5_touch 46 = .ok (.iload_n 1, 1) := by decide +kernel
theorem dX5_touch_47 : decode cX5_touch 47 = .ok (.invokevirtual 225, 3) := by decide +kernel
theorem dX5_touch_50 : decode cX5_touch 50 = .ok (.aload_n 0, 1) := by decide +kernel
theorem dX5_touch_51 : decode cX5_touch 51 = .ok (.getfield 32, 3) := by decide +kernel
theorem dX5_touch_54 : decode cX5_touch 54 = .ok (.iload_n 1, 1) := by decide +kernel
theorem dX5_touch_55 : decode cX5_touch 55 = .ok (.iaload, 1) := by decide +kernel
theorem dX5_touch_56 : decode cX5_touch 56 = .ok (.istore_n 2, 1) := by decide +kernel
theorem dX5_touch_57 : decode cX5_touch 57 = .ok (.aload_n 0, 1) := by decide +kernel
theorem dX5_touch_58 : decode cX5_touch 58 = .ok (.aload_n 0, 1) := by decide +kernel
theorem dX5_touch_59 : decode cX5_touch 59 = .ok (.getfield 32, 3) := by decide +kernel
theorem dX5_touch_62 : decode cX5_touch 62 = .ok (.invokevirtual 228, 3) := by decide +kernel
theorem dX5_touch_65 : decode cX5_touch 65 = .ok (.iload_n 2, 1) := by decide +kernel
theorem dX5_touch_66 : decode cX5_touch 66 = .ok (.ireturn, 1) := by decide +kernel
theorem dX5_isBy_0 : decode cX5_isBy 0 = .ok (.aload_n 0, 1) := by decide +kernel
theorem dX5_isBy_1 : decode cX5_isBy 1 = .ok (.iload_n 1, 1) := by decide +kernel
theorem dX5_isBy_2 : decode cX5_isBy 2 = .ok (.invokevirtual 199, 3) := by decide +kernel
theorem dX5_isBy_5 : decode cX5_isBy 5 = .ok (.iconst 1, 1) := by decide +kernel
theorem dX5_isBy_6 : decode cX5_isBy 6 = .ok (.if_icmp .ne 44, 3) := by decide +kernel
theorem dX5_isBy_9 : decode cX5_isBy 9 = .ok (.aload_n 0, 1) := by decide +kernel
theorem dX5_isBy_10 : decode cX5_isBy 10 = .ok (.iload_n 1, 1) := by decide +kernel
theorem dX5_isBy_11 : decode cX5_isBy 11 = .ok (.invokevirtual 181, 3) := by decide +kernel
theorem dX5_isBy_14 : decode cX5_isBy 14 = .ok (.aload_n 0, 1) := by decide +kernel
theorem dX5_isBy_15 : decode cX5_isBy 15 = .ok (.iload_n 2, 1) := by decide +kernel
theorem dX5_isBy_16 : decode cX5_isBy 16 = .ok (.invokevirtual 181, 3) := by decide +kernel
theorem dX5_isBy_19 : decode cX5_isBy 19 = .ok (.if_icmp .ne 31, 3) := by decide +kernel
theorem dX5_isBy_22 : decode cX5_isBy 22 = .ok (.aload_n 0, 1) := by decide +kernel
theorem dX5_isBy_23 : decode cX5_isBy 23 = .ok (.aload_n 0, 1) := by decide +kernel
theorem dX5_isBy_24 : decode cX5_isBy 24 = .ok (.getfield 32, 3) := by decide +kernel
theorem dX5_isBy_27 : decode cX5_isBy 27 = .ok (.iload_n 1, 1) := by decide +kernel
theorem dX5_isBy_28 : decode cX5_isBy 28 = .ok (.invokevirtual 189, 3) := by decide +kernel
theorem dX5_isBy_31 : decode cX5_isBy 31 = .ok (.ifCond .eq 19, 3) := by decide +kernel
theorem dX5_isBy_34 : decode cX5_isBy 34 = .ok (.aload_n 0, 1) := by decide +kernel
theorem dX5_isBy_35 : decode cX5_isBy 35 = .ok (.aload_n 0, 1) := by decide +kernel
theorem dX5_isBy_36 : decode cX5_isBy 36 = .ok (.getfield 32, 3) := by decide +kernel
theorem dX5_isBy_39 : decode cX5_isBy 39 = .ok (.iload_n 2, 1) := by decide +kernel
theorem dX5_isBy_40 : decode cX5_isBy 40 = .ok (.invokevirtual 189, 3) := by decide +kernel
theorem dX5_isBy_43 : decode cX5_isBy 43 = .ok (.ifCond .eq 7, 3) := by decide +kernel
theorem dX5_isBy_46 : decode cX5_isBy 46 = .ok (.iconst 1, 1) := by decide +kernel
theorem dX5_isBy_47 : decode cX5_isBy 47 = .ok (.goto 4, 3) := by decide +kernel
theorem dX5_isBy_50 : decode cX5_isBy 50 = .ok (.iconst 0, 1) := by decide +kernel
theorem dX5_isBy_51 : decode cX5_isBy 51 = .ok (.ireturn, 1) := by decide +kernel
theorem dX5_by_0 : decode cX5_by 0 = .ok (.aload_n 0, 1) := by decide +kernel
theorem dX5_by_1 : decode cX5_by 1 = .ok (.iload_n 1, 1) := by decide +kernel
theorem dX5_by_2 : decode cX5_by 2 = .ok (.invokevirtual 196, 3) := by decide +kernel
theorem dX5_by_5 : decode cX5_by 5 = .ok (.ifCond .eq 16, 3) := by decide +kernel
theorem dX5_by_8 : decode cX5_by 8 = .ok (.aload_n 0, 1) := by decide +kernel
theorem dX5_by_9 : decode cX5_by 9 = .ok (.iload_n 2, 1) := by decide +kernel
theorem dX5_by_10 : decode cX5_by 10 = .ok (.invokevirtual 196, 3) := by decide +kernel
theorem dX5_by_13 : decode cX5_by 13 = .ok (.ifCond .eq 8, 3) := by decide +kernel
theorem dX5_by_16 : decode cX5_by 16 = .ok (.iload_n 1, 1) := by decide +kernel
theorem dX5_by_17 : decode cX5_by 17 = .ok (.iload_n 2, 1) := by decide +kernel
theorem dX5_by_18 : decode cX5_by 18 = .ok (.if_icmp .ne 6, 3) := by decide +kernel
theorem dX5_by_21 : decode cX5_by 21 = .ok (.bipush (-2), 2) := by decide +kernel
theorem dX5_by_23 : decode cX5_by 23 = .ok (.ireturn, 1) := by decide +kernel
theorem dX5_by_24 : decode cX5_by 24 = .ok (.aload_n 0, 1) := by decide +kernel
theorem dX5_by_25 : decode cX5_by 25 = .ok (.iload_n 1, 1) := by decide +kernel
theorem dX5_by_26 : decode cX5_by 26 = .ok (.iload_n 2, 1) := by decide +kernel
theorem dX5_by_27 : decode cX5_by 27 = .ok (.invokevirtual 232, 3) := by decide +kernel
theorem dX5_by_30 : decode cX5_by 30 = .ok (.ifCond .ne 6, 3) := by decide +kernel
theorem dX5_by_33 : decode cX5_by 33 = .ok (.bipush (-4), 2) := by decide +kernel
theorem dX5_by_35 : decode cX5_by 35 = .ok (.ireturn, 1) := by decide +kernel
theorem dX5_by_36 : decode cX5_by 36 = .ok (.aload_n 0, 1) := by decide +kernel
theorem dX5_by_37 : decode cX5_by 37 = .ok (.getfield 32, 3) := by decide +kernel
theorem dX5_by_40 : decode cX5_by 40 = .ok (.bipush 10, 2) := by decide +kernel
theorem dX5_by_42 : decode cX5_by 42 = .ok (.iaload, 1) := by decide +kernel
theorem dX5_by_43 : decode cX5_by 43 = .ok (.bipush 24, 2) := by decide +kernel
theorem dX5_by_45 : decode cX5_by 45 = .ok (.if_icmp .ne 6, 3) := by decide +kernel
theorem dX5_by_48 : decode cX5_by 48 = .ok (.bipush (-5), 2) := by decide +kernel
theorem dX5_by_50 : decode cX5_by 50 = .ok (.ireturn, 1) := by decide +kernel
theorem dX5_by_51 : decode cX5_by 51 = .ok (.aload_n 0, 1) := by decide +kernel
theorem dX5_by_52 : decode cX5_by 52 = .ok (.invokevirtual 222, 3) := by decide +kernel
theorem dX5_by_55 : decode cX5_by 55 = .ok (.aload_n 0, 1) := by decide +kernel
theorem dX5_by_56 : decode cX5_by 56 = .ok (.iload_n 1, 1) := by decide +kernel
theorem dX5_by_57 : decode cX5_by 57 = .ok (.invokevirtual 225, 3) := by decide +kernel
theorem dX5_by_60 : decode cX5_by 60 = .ok (.aload_n 0, 1) := by decide +kernel
theorem dX5_by_61 : decode cX5_by 61 = .ok (.getfield 32, 3) := by decide +kernel
theorem dX5_by_64 : decode cX5_by 64 = .ok (.iload_n 1, 1) := by decide +kernel
theorem dX5_by_65 : decode cX5_by 65 = .ok (.iaload, 1) := by decide +kernel
theorem dX5_by_66 : decode cX5_by 66 = .ok (.istore_n 3, 1) := by decide +kernel
theorem dX5_by_67 : decode cX5_by 67 = .ok (.aload_n 0, 1) := by decide +kernel
theorem dX5_by_68 : decode cX5_by 68 = .ok (.aload_n 0, 1) := by decide +kernel
theorem dX5_by_69 : decode cX5_by 69 = .ok (.getfield 32, 3) := by decide +kernel
theorem dX5_by_72 : decode cX5_by 72 = .ok (.invokevirtual 228, 3) := by decide +kernel
theorem dX5_by_75 : decode cX5_by 75 = .ok (.iload_n 3, 1) := by decide +kernel
theorem dX5_by_76 : decode cX5_by 76 = .ok (.ireturn, 1) := by decide +kernel
theorem dX5_eat_0 : decode cX5_eat 0 = .ok (.aload_n 0, 1) := by decide +kernel
theorem dX5_eat_1 : decode cX5_eat 1 = .ok (.iload_n 1, 1) := by decide +kernel
theorem dX5_eat_2 : decode cX5_eat 2 = .ok (.invokevirtual 196, 3) := by decide +kernel
theorem dX5_eat_5 : decode cX5_eat 5 = .ok (.ifCond .eq 21, 3) := by decide +kernel
theorem dX5_eat_8 : decode cX5_eat 8 = .ok (.iload_n 2, 1) := by decide +kernel
theorem dX5_eat_9 : decode cX5_eat 9 = .ok (.iconst (-1), 1) := by decide +kernel
theorem dX5_eat_10 : decode cX5_eat 10 = .ok (.if_icmp .eq 19, 3) := by decide +kernel
theorem dX5_eat_13 : decode cX5_eat 13 = .ok (.aload_n 0, 1) := by decide +kernel
theorem dX5_eat_14 : decode cX5_eat 14 = .ok (.iload_n 2, 1) := by decide +kernel
theorem dX5_eat_15 : decode cX5_eat 15 = .ok (.invokevirtual 196, 3) := by decide +kernel
theorem dX5_eat_18 : decode cX5_eat 18 = .ok (.ifCond .eq 8, 3) := by decide +kernel
theorem dX5_eat_21 : decode cX5_eat 21 = .ok (.iload_n 2, 1) := by decide +kernel
theorem dX5_eat_22 : decode cX5_eat 22 = .ok (.iload_n 1, 1) := by decide +kernel
theorem dX5_eat_23 : decode cX5_eat 23 = .ok (.if_icmp .ne 6, 3) := by decide +kernel
theorem dX5_eat_26 : decode cX5_eat 26 = .ok (.bipush (-2), 2) := by decide +kernel
theorem dX5_eat_28 : decode cX5_eat 28 = .ok (.ireturn, 1) := by decide +kernel
theorem dX5_eat_29 : decode cX5_eat 29 = .ok (.aload_n 0, 1) := by decide +kernel
theorem dX5_eat_30 : decode cX5_eat 30 = .ok (.iload_n 1, 1) := by decide +kernel
theorem dX5_eat_31 : decode cX5_eat 31 = .ok (.invokevirtual 199, 3) := by decide +kernel
theorem dX5_eat_34 : decode cX5_eat 34 = .ok (.iconst 4, 1) := by decide +kernel
theorem dX5_eat_35 : decode cX5_eat 35 = .ok (.if_icmp .ne 29, 3) := by decide +kernel
theorem dX5_eat_38 : decode cX5_eat 38 = .ok (.aload_n 0, 1) := by decide +kernel
theorem dX5_eat_39 : decode cX5_eat 39 = .ok (.aload_n 0, 1) := by decide +kernel
theorem dX5_eat_40 : decode cX5_eat 40 = .ok (.getfield 32, 3) := by decide +kernel
theorem dX5_eat_43 : decode cX5_eat 43 = .ok (.iload_n 1, 1) := by decide +kernel
theorem dX5_eat_44 : decode cX5_eat 44 = .ok (.invokevirtual 189, 3) := by decide +kernel
theorem dX5_eat_47 : decode cX5_eat 47 = .ok (.ifCond .eq 17, 3) := by decide +kernel
theorem dX5_eat_50 : decode cX5_eat 50 = .ok (.iload_n 2, 1) := by decide +kernel
theorem dX5_eat_51 : decode cX5_eat 51 = .ok (.iconst (-1), 1) := by decide +kernel
theorem dX5_eat_52 : decode cX5_eat 52 = .ok (.if_icmp .eq 15, 3) := by decide +kernel
theorem dX5_eat_55 : decode cX5_eat 55 = .ok (.aload_n 0, 1) := by decide +kernel
theorem dX5_eat_56 : decode cX5_eat 56 = .ok (.iload_n 2, 1) := by decide +kernel
theorem dX5_eat_57 : decode cX5_eat 57 = .ok (.iload_n 1, 1) := by decide +kernel
theorem dX5_eat_58 : decode cX5_eat 58 = .ok (.invokevirtual 232, 3) := by decide +kernel
theorem dX5_eat_61 : decode cX5_eat 61 = .ok (.ifCond .ne 6, 3) := by decide +kernel
theorem dX5_eat_64 : decode cX5_eat 64 = .ok (.bipush (-4), 2) := by decide +kernel
theorem dX5_eat_66 : decode cX5_eat 66 = .ok (.ireturn, 1) := by decide +kernel
theorem dX5_eat_67 : decode cX5_eat 67 = .ok (.aload_n 0, 1) := by decide +kernel
theorem dX5_eat_68 : decode cX5_eat 68 = .ok (.getfield 32, 3) := by decide +kernel
theorem dX5_eat_71 : decode cX5_eat 71 = .ok (.bipush 10, 2) := by decide +kernel
theorem dX5_eat_73 : decode cX5_eat 73 = .ok (.iaload, 1) := by decide +kernel
theorem dX5_eat_74 : decode cX5_eat 74 = .ok (.bipush 24, 2) := by decide +kernel
theorem dX5_eat_76 : decode cX5_eat 76 = .ok (.if_icmp .ne 6, 3) := by decide +kernel
theorem dX5_eat_79 : decode cX5_eat 79 = .ok (.bipush (-5), 2) := by decide +kernel
theorem dX5_eat_81 : decode cX5_eat 81 = .ok (.ireturn, 1) := by decide +kernel
theorem dX5_eat_82 : decode cX5_eat 82 = .ok (.aload_n 0, 1) := by decide +kernel
theorem dX5_eat_83 : decode cX5_eat 83 = .ok (.invokevirtual 222, 3) := by decide +kernel
theorem dX5_eat_86 : decode cX5_eat 86 = .ok (.aload_n 0, 1) := by decide +kernel
theorem dX5_eat_87 : decode cX5_eat 87 = .ok (.iload_n 2, 1) := by decide +kernel
theorem dX5_eat_88 : decode cX5_eat 88 = .ok (.iconst (-1), 1) := by decide +kernel
theorem dX5_eat_89 : decode cX5_eat 89 = .ok (.if_icmp .ne 7, 3) := by decide +kernel
theorem dX5_eat_92 : decode cX5_eat 92 = .ok (.iload_n 1, 1) := by decide +kernel
theorem dX5_eat_93 : decode cX5_eat 93 = .ok (.goto 4, 3) := by decide +kernel
theorem dX5_eat_96 : decode cX5_eat 96 = .ok (.iload_n 2, 1) := by decide +kernel
theorem dX5_eat_97 : decode cX5_eat 97 = .ok (.invokevirtual 225, 3) := by decide +kernel
theorem dX5_eat_100 : decode cX5_eat 100 = .ok (.aload_n 0, 1) := by decide +kernel
theorem dX5_eat_101 : decode cX5_eat 101 = .ok (.getfield 32, 3) := by decide +kernel
theorem dX5_eat_104 : decode cX5_eat 104 = .ok (.iload_n 1, 1) := by decide +kernel
theorem dX5_eat_105 : decode cX5_eat 105 = .ok (.iaload, 1) := by decide +kernel
theorem dX5_eat_106 : decode cX5_eat 106 = .ok (.ifCond .ne 7, 3) := by decide +kernel
theorem dX5_eat_109 : decode cX5_eat 109 = .ok (.iconst 1, 1) := by decide +kernel
theorem dX5_eat_110 : decode cX5_eat 110 = .ok (.goto 4, 3) := by decide +kernel
theorem dX5_eat_113 : decode cX5_eat 113 = .ok (.iconst 0, 1) := by decide +kernel
theorem dX5_eat_114 : decode cX5_eat 114 = .ok (.istore_n 3, 1) := by decide +kernel
theorem dX5_eat_115 : decode cX5_eat 115 = .ok (.aload_n 0, 1) := by decide +kernel
theorem dX5_eat_116 : decode cX5_eat 116 = .ok (.getfield 32, 3) := by decide +kernel
theorem dX5_eat_119 : decode cX5_eat 119 = .ok (.bipush 8, 2) := by decide +kernel
theorem dX5_eat_121 : decode cX5_eat 121 = .ok (.aload_n 0, 1) := by decide +kernel
theorem dX5_eat_122 : decode cX5_eat 122 = .ok (.getfield 32, 3) := by decide +kernel
theorem dX5_eat_125 : decode cX5_eat 125 = .ok (.bipush 8, 2) := by decide +kernel
theorem dX5_eat_127 : decode cX5_eat 127 = .ok (.iaload, 1) := by decide +kernel
theorem dX5_eat_128 : decode cX5_eat 128 = .ok (.iload_n 3, 1) := by decide +kernel
theorem dX5_eat_129 : decode cX5_eat 129 = .ok (.iload_n 1, 1) := by decide +kernel
theorem dX5_eat_130 : decode cX5_eat 130 = .ok (.ishl, 1) := by decide +kernel
theorem dX5_eat_131 : decode cX5_eat 131 = .ok (.ior, 1) := by decide +kernel
theorem dX5_eat_132 : decode cX5_eat 132 = .ok (.iastore, 1) := by decide +kernel
theorem dX5_eat_133 : decode cX5_eat 133 = .ok (.aload_n 0, 1) := by decide +kernel
theorem dX5_eat_134 : decode cX5_eat 134 = .ok (.aload_n 0, 1) := by decide +kernel
theorem dX5_eat_135 : decode cX5_eat 135 = .ok (.getfield 32, 3) := by decide +kernel
theorem dX5_eat_138 : decode cX5_eat 138 = .ok (.invokevirtual 228, 3) := by decide +kernel
theorem dX5_eat_141 : decode cX5_eat 141 = .ok (.iload_n 3, 1) := by decide +kernel
theorem dX5_eat_142 : decode cX5_eat 142 = .ok (.ireturn, 1) := by decide +kernel
theorem dX5_bathe_0 : decode cX5_bathe 0 = .ok (.aload_n 0, 1) := by decide +kernel
theorem dX5_bathe_1 : decode cX5_bathe 1 = .ok (.getfield 32, 3) := by decide +kernel
theorem dX5_bathe_4 : decode cX5_bathe 4 = .ok (.bipush 10, 2) := by decide +kernel
theorem dX5_bathe_6 : decode cX5_bathe 6 = .ok (.iaload, 1) := by decide +kernel
theorem dX5_bathe_7 : decode cX5_bathe 7 = .ok (.bipush 24, 2) := by decide +kernel
theorem dX5_bathe_9 : decode cX5_bathe 9 = .ok (.if_icmp .ne 6, 3) := by decide +kernel
theorem dX5_bathe_12 : decode cX5_bathe 12 = .ok (.bipush (-5), 2) := by decide +kernel
theorem dX5_bathe_14 : decode cX5_bathe 14 = .ok (.ireturn, 1) := by decide +kernel
theorem dX5_bathe_15 : decode cX5_bathe 15 = .ok (.aload_n 0, 1) := by decide +kernel
theorem dX5_bathe_16 : decode cX5_bathe 16 = .ok (.invokevirtual 222, 3) := by decide +kernel
theorem dX5_bathe_19 : decode cX5_bathe 19 = .ok (.aload_n 0, 1) := by decide +kernel
theorem dX5_bathe_20 : decode cX5_bathe 20 = .ok (.getfield 32, 3) := by decide +kernel
theorem dX5_bathe_23 : decode cX5_bathe 23 = .ok (.bipush 11, 2) := by decide +kernel
theorem dX5_bathe_25 : decode cX5_bathe 25 = .ok (.aload_n 0, 1) := by decide +kernel
theorem dX5_bathe_26 : decode cX5_bathe 26 = .ok (.getfield 32, 3) := by decide +kernel
theorem dX5_bathe_29 : decode cX5_bathe 29 = .ok (.bipush 11, 2) := by decide +kernel
theorem dX5_bathe_31 : decode cX5_bathe 31 = .ok (.iaload, 1) := by decide +kernel
theorem dX5_bathe_32 : decode cX5_bathe 32 = .ok (.iconst 1, 1) := by decide +kernel
theorem dX5_bathe_33 : decode cX5_bathe 33 = .ok (.aload_n 0, 1) := by decide +kernel
theorem dX5_bathe_34 : decode cX5_bathe 34 = .ok (.getfield 32, 3) := by decide +kernel
theorem dX5_bathe_37 : decode cX5_bathe 37 = .ok (.bipush 10, 2) := by decide +kernel
theorem dX5_bathe_39 : decode cX5_bathe 39 = .ok (.iaload, 1) := by decide +kernel
theorem dX5_bathe_40 : decode cX5_bathe 40 = .ok (.ishl, 1) := by decide +kernel
theorem dX5_bathe_41 : decode cX5_bathe 41 = .ok (.ior, 1) := by decide +kernel
theorem dX5_bathe_42 : decode cX5_bathe 42 = .ok (.iastore, 1) := by decide +kernel
theorem dX5_bathe_43 : decode cX5_bathe 43 = .ok (.aload_n 0, 1) := by decide +kernel
theorem dX5_bathe_44 : decode cX5_bathe 44 = .ok (.aload_n 0, 1) := by decide +kernel
theorem dX5_bathe_45 : decode cX5_bathe 45 = .ok (.getfield 32, 3) := by decide +kernel
theorem dX5_bathe_48 : decode cX5_bathe 48 = .ok (.invokevirtual 228, 3) := by decide +kernel
theorem dX5_bathe_51 : decode cX5_bathe 51 = .ok (.aload_n 0, 1) := by decide +kernel
theorem dX5_bathe_52 : decode cX5_bathe 52 = .ok (.getfield 32, 3) := by decide +kernel
theorem dX5_bathe_55 : decode cX5_bathe 55 = .ok (.bipush 10, 2) := by decide +kernel
theorem dX5_bathe_57 : decode cX5_bathe 57 = .ok (.iaload, 1) := by decide +kernel
theorem dX5_bathe_58 : decode cX5_bathe 58 = .ok (.ireturn, 1) := by decide +kernel
theorem dX5_idle_0 : decode cX5_idle 0 = .ok (.aload_n 0, 1) := by decide +kernel
theorem dX5_idle_1 : decode cX5_idle 1 = .ok (.getfield 32, 3) := by decide +kernel
theorem dX5_idle_4 : decode cX5_idle 4 = .ok (.bipush 10, 2) := by decide +kernel
theorem dX5_idle_6 : decode cX5_idle 6 = .ok (.iaload, 1) := by decide +kernel
theorem dX5_idle_7 : decode cX5_idle 7 = .ok (.bipush 24, 2) := by decide +kernel
theorem dX5_idle_9 : decode cX5_idle 9 = .ok (.if_icmp .ne 6, 3) := by decide +kernel
theorem dX5_idle_12 : decode cX5_idle 12 = .ok (.bipush (-5), 2) := by decide +kernel
theorem dX5_idle_14 : decode cX5_idle 14 = .ok (.ireturn, 1) := by decide +kernel
theorem dX5_idle_15 : decode cX5_idle 15 = .ok (.aload_n 0, 1) := by decide +kernel
theorem dX5_idle_16 : decode cX5_idle 16 = .ok (.invokevirtual 222, 3) := by decide +kernel
theorem dX5_idle_19 : decode cX5_idle 19 = .ok (.aload_n 0, 1) := by decide +kernel
theorem dX5_idle_20 : decode cX5_idle 20 = .ok (.aload_n 0, 1) := by decide +kernel
theorem dX5_idle_21 : decode cX5_idle 21 = .ok (.getfield 32, 3) := by decide +kernel
theorem dX5_idle_24 : decode cX5_idle 24 = .ok (.invokevirtual 228, 3) := by decide +kernel
theorem dX5_idle_27 : decode cX5_idle 27 = .ok (.aload_n 0, 1) := by decide +kernel
theorem dX5_idle_28 : decode cX5_idle 28 = .ok (.getfield 32, 3) := by decide +kernel
theorem dX5_idle_31 : decode cX5_idle 31 = .ok (.bipush 10, 2) := by decide +kernel
theorem dX5_idle_33 : decode cX5_idle 33 = .ok (.iaload, 1) := by decide +kernel
theorem dX5_idle_34 : decode cX5_idle 34 = .ok (.ireturn, 1) := by decide +kernel
theorem dX5_undo_0 : decode cX5_undo 0 = .ok (.aload_n 0, 1) := by decide +kernel
theorem dX5_undo_1 : decode cX5_undo 1 = .ok (.getfield 75, 3) := by decide +kernel
theorem dX5_undo_4 : decode cX5_undo 4 = .ok (.ifCond .ne 6, 3) := by decide +kernel
theorem dX5_undo_7 : decode cX5_undo 7 = .ok (.bipush (-4), 2) := by decide +kernel
theorem dX5_undo_9 : decode cX5_undo 9 = .ok (.ireturn, 1) := by decide +kernel
theorem dX5_undo_10 : decode cX5_undo 10 = .ok (.aload_n 0, 1) := by decide +kernel
theorem dX5_undo_11 : decode cX5_undo 11 = .ok (.dup, 1) := by decide +kernel
theorem dX5_undo_12 : decode cX5_undo 12 = .ok (.getfield 75, 3) := by decide +kernel
theorem dX5_undo_15 : decode cX5_undo 15 = .ok (.iconst 1, 1) := by decide +kernel
theorem dX5_undo_16 : decode cX5_undo 16 = .ok (.isub, 1) := by decide +kernel
theorem dX5_undo_17 : decode cX5_undo 17 = .ok (.putfield 75, 3) := by decide +kernel
theorem dX5_undo_20 : decode cX5_undo 20 = .ok (.aload_n 0, 1) := by decide +kernel
theorem dX5_undo_21 : decode cX5_undo 21 = .ok (.getfield 45, 3) := by decide +kernel
theorem dX5_undo_24 : decode cX5_undo 24 = .ok (.bipush 12, 2) := by decide +kernel
theorem dX5_undo_26 : decode cX5_undo 26 = .ok (.aload_n 0, 1) := by decide +kernel
theorem dX5_undo_27 : decode cX5_undo 27 = .ok (.getfield 75, 3) := by decide +kernel
theorem dX5_undo_30 : decode cX5_undo 30 = .ok (.imul, 1) := by decide +kernel
theorem dX5_undo_31 : decode cX5_undo 31 = .ok (.aload_n 0, 1) := by decide +kernel
theorem dX5_undo_32 : decode cX5_undo 32 = .ok (.getfield 32, 3) := by decide +kernel
theorem dX5_undo_35 : decode cX5_undo 35 = .ok (.iconst 0, 1) := by decide +kernel
theorem dX5_undo_36 : decode cX5_undo 36 = .ok (.invokestatic 218, 3) := by decide +kernel
theorem dX5_undo_39 : decode cX5_undo 39 = .ok (.aload_n 0, 1) := by decide +kernel
theorem dX5_undo_40 : decode cX5_undo 40 = .ok (.getfield 75, 3) := by decide +kernel
theorem dX5_undo_43 : decode cX5_undo 43 = .ok (.ireturn, 1) := by decide +kernel
theorem dX5_keep_0 : decode cX5_keep 0 = .ok (.iload_n 1, 1) := by decide +kernel
theorem dX5_keep_1 : decode cX5_keep 1 = .ok (.iconst 0, 1) := by decide +kernel
theorem dX5_keep_2 : decode cX5_keep 2 = .ok (.iconst 1, 1) := by decide +kernel
theorem dX5_keep_3 : decode cX5_keep 3 = .ok (.invokestatic 87, 3) := by decide +kernel
theorem dX5_keep_6 : decode cX5_keep 6 = .ok (.ifCond .ne 6, 3) := by decide +kernel
theorem dX5_keep_9 : decode cX5_keep 9 = .ok (.bipush (-2), 2) := by decide +kernel
theorem dX5_keep_11 : decode cX5_keep 11 = .ok (.ireturn, 1) := by decide +kernel
theorem dX5_keep_12 : decode cX5_keep 12 = .ok (.aload_n 0, 1) := by decide +kernel
theorem dX5_keep_13 : decode cX5_keep 13 = .ok (.getfield 32, 3) := by decide +kernel
theorem dX5_keep_16 : decode cX5_keep 16 = .ok (.iconst 0, 1) := by decide +kernel
theorem dX5_keep_17 : decode cX5_keep 17 = .ok (.aload_n 0, 1) := by decide +kernel
theorem dX5_keep_18 : decode cX5_keep 18 = .ok (.getfield 38, 3) := by decide +kernel
theorem dX5_keep_21 : decode cX5_keep 21 = .ok (.bipush 12, 2) := by decide +kernel
theorem dX5_keep_23 : decode cX5_keep 23 = .ok (.iload_n 1, 1) := by decide +kernel
theorem dX5_keep_24 : decode cX5_keep 24 = .ok (.imul, 1) := by decide +kernel
theorem dX5_keep_25 : decode cX5_keep 25 = .ok (.invokestatic 218, 3) := by decide +kernel
theorem dX5_keep_28 : decode cX5_keep 28 = .ok (.aload_n 0, 1) := by decide +kernel
theorem dX5_keep_29 : decode cX5_keep 29 = .ok (.getfield 41, 3) := by decide +kernel
theorem dX5_keep_32 : decode cX5_keep 32 = .ok (.iload_n 1, 1) := by decide +kernel
theorem dX5_keep_33 : decode cX5_keep 33 = .ok (.iconst 1, 1) := by decide +kernel
theorem dX5_keep_34 : decode cX5_keep 34 = .ok (.bastore, 1) := by decide +kernel
theorem dX5_keep_35 : decode cX5_keep 35 = .ok (.aload_n 0, 1) := by decide +kernel
theorem dX5_keep_36 : decode cX5_keep 36 = .ok (.getfield 32, 3) := by decide +kernel
theorem dX5_keep_39 : decode cX5_keep 39 = .ok (.bipush 10, 2) := by decide +kernel
theorem dX5_keep_41 : decode cX5_keep 41 = .ok (.iaload, 1) := by decide +kernel
theorem dX5_keep_42 : decode cX5_keep 42 = .ok (.ireturn, 1) := by decide +kernel
theorem dX5_back_0 : decode cX5_back 0 = .ok (.iload_n 1, 1) := by decide +kernel
theorem dX5_back_1 : decode cX5_back 1 = .ok (.iconst 0, 1) := by decide +kernel
theorem dX5_back_2 : decode cX5_back 2 = .ok (.iconst 1, 1) := by decide +kernel
theorem dX5_back_3 : decode cX5_back 3 = .ok (.invokestatic 87, 3) := by decide +kernel
theorem dX5_back_6 : decode cX5_back 6 = .ok (.ifCond .ne 6, 3) := by decide +kernel
theorem dX5_back_9 : decode cX5_back 9 = .ok (.bipush (-2), 2) := by decide +kernel
theorem dX5_back_11 : decode cX5_back 11 = .ok (.ireturn, 1) := by decide +kernel
theorem dX5_back_12 : decode cX5_back 12 = .ok (.aload_n 0, 1) := by decide +kernel
theorem dX5_back_13 : decode cX5_back 13 = .ok (.getfield 41, 3) := by decide +kernel
theorem dX5_back_16 : decode cX5_back 16 = .ok (.iload_n 1, 1) := by decide +kernel
theorem dX5_back_17 : decode cX5_back 17 = .ok (.baload, 1) := by decide +kernel
theorem dX5_back_18 : decode cX5_back 18 = .ok (.ifCond .ne 6, 3) := by decide +kernel
theorem dX5_back_21 : decode cX5_back 21 = .ok (.bipush (-4), 2) := by decide +kernel
theorem dX5_back_23 : decode cX5_back 23 = .ok (.ireturn, 1) := by decide +kernel
theorem dX5_back_24 : decode cX5_back 24 = .ok (.aload_n 0, 1) := by decide +kernel
theorem dX5_back_25 : decode cX5_back 25 = .ok (.getfield 38, 3) := by decide +kernel
theorem dX5_back_28 : decode cX5_back 28 = .ok (.bipush 12, 2) := by decide +kernel
theorem dX5_back_30 : decode cX5_back 30 = .ok (.iload_n 1, 1) := by decide +kernel
theorem dX5_back_31 : decode cX5_back 31 = .ok (.imul, 1) := by decide +kernel
theorem dX5_back_32 : decode cX5_back 32 = .ok (.aload_n 0, 1) := by decide +kernel
theorem dX5_back_33 : decode cX5_back 33 = .ok (.getfield 32, 3) := by decide +kernel
theorem dX5_back_36 : decode cX5_back 36 = .ok (.iconst 0, 1) := by decide +kernel
theorem dX5_back_37 : decode cX5_back 37 = .ok (.invokestatic 218, 3) := by decide +kernel
theorem dX5_back_40 : decode cX5_back 40 = .ok (.aload_n 0, 1) := by decide +kernel
theorem dX5_back_41 : decode cX5_back 41 = .ok (.iconst 0, 1) := by decide +kernel
theorem dX5_back_42 : decode cX5_back 42 = .ok (.putfield 75, 3) := by decide +kernel
theorem dX5_back_45 : decode cX5_back 45 = .ok (.aload_n 0, 1) := by decide +kernel
theorem dX5_back_46 : decode cX5_back 46 = .ok (.getfield 32, 3) := by decide +kernel
theorem dX5_back_49 : decode cX5_back 49 = .ok (.bipush 10, 2) := by decide +kernel
theorem dX5_back_51 : decode cX5_back 51 = .ok (.iaload, 1) := by decide +kernel
theorem dX5_back_52 : decode cX5_back 52 = .ok (.ireturn, 1) := by decide +kernel
theorem dX5_tooLoaded_0 : decode cX5_tooLoaded 0 = .ok (.iconst (-1), 1) := by decide +kernel
theorem dX5_tooLoaded_1 : decode cX5_tooLoaded 1 = .ok (.istore_n 2, 1) := by decide +kernel
theorem dX5_tooLoaded_2 : decode cX5_tooLoaded 2 = .ok (.iconst 2, 1) := by decide +kernel
theorem dX5_tooLoaded_3 : decode cX5_tooLoaded 3 = .ok (.istore_n 3, 1) := by decide +kernel
theorem dX5_tooLoaded_4 : decode cX5_tooLoaded 4 = .ok (.iload_n 3, 1) := by decide +kernel
theorem dX5_tooLoaded_5 : decode cX5_tooLoaded 5 = .ok (.ifCond .lt 41, 3) := by decide +kernel
theorem dX5_tooLoaded_8 : decode cX5_tooLoaded 8 = .ok (.aload_n 1, 1) := by decide +kernel
theorem dX5_tooLoaded_9 : decode cX5_tooLoaded 9 = .ok (.bipush 9, 2) := by decide +kernel
theorem dX5_tooLoaded_11 : decode cX5_tooLoaded 11 = .ok (.iaload, 1) := by decide +kernel
theorem dX5_tooLoaded_12 : decode cX5_tooLoaded 12 = .ok (.iload_n 3, 1) := by decide +kernel
theorem dX5_tooLoaded_13 : decode cX5_tooLoaded 13 = .ok (.invokestatic 177, 3) := by decide +kernel
theorem dX5_tooLoaded_16 : decode cX5_tooLoaded 16 = .ok (.ifCond .ne 22, 3) := by decide +kernel
theorem dX5_tooLoaded_19 : decode cX5_tooLoaded 19 = .ok (.aload_n 0, 1) := by decide +kernel
theorem dX5_tooLoaded_20 : decode cX5_tooLoaded 20 = .ok (.aload_n 1, 1) := by decide +kernel
theorem dX5_tooLoaded_21 : decode cX5_tooLoaded 21 = .ok (.iload_n 3, 1) := by decide +kernel
theorem dX5_tooLoaded_22 : decode cX5_tooLoaded 22 = .ok (.invokevirtual 205, 3) := by decide +kernel
theorem dX5_tooLoaded_25 : decode cX5_tooLoaded 25 = .ok (.aload_n 0, 1) := by decide +kernel
theorem dX5_tooLoaded_26 : decode cX5_tooLoaded 26 = .ok (.getfield 13, 3) := by decide +kernel
theorem dX5_tooLoaded_29 : decode cX5_tooLoaded 29 = .ok (.iload_n 3, 1) := by decide +kernel
theorem dX5_tooLoaded_30 : decode cX5_tooLoaded 30 = .ok (.iaload, 1) := by decide +kernel
theorem dX5_tooLoaded_31 : decode cX5_tooLoaded 31 = .ok (.if_icmp .le 7, 3) := by decide +kernel
theorem dX5_tooLoaded_34 : decode cX5_tooLoaded 34 = .ok (.iload_n 3, 1) := by decide +kernel
theorem dX5_tooLoaded_35 : decode cX5_tooLoaded 35 = .ok (.goto 4, 3) := by decide +kernel
theorem dX5_tooLoaded_38 : decode cX5_tooLoaded 38 = .ok (.iload_n 2, 1) := by decide +kernel
theorem dX5_tooLoaded_39 : decode cX5_tooLoaded 39 = .ok (.istore_n 2, 1) := by decide +kernel
theorem dX5_tooLoaded_40 : decode cX5_tooLoaded 40 = .ok (.iinc 3 (-1), 3) := by decide +kernel
theorem dX5_tooLoaded_43 : decode cX5_tooLoaded 43 = .ok (.goto (-39), 3) := by decide +kernel
theorem dX5_tooLoaded_46 : decode cX5_tooLoaded 46 = .ok (.iload_n 2, 1) := by decide +kernel
theorem dX5_tooLoaded_47 : decode cX5_tooLoaded 47 = .ok (.ireturn, 1) := by decide +kernel
theorem dX5_town_0 : decode cX5_town 0 = .ok (.iload_n 1, 1) := by decide +kernel
theorem dX5_town_1 : decode cX5_town 1 = .ok (.iconst 0, 1) := by decide +kernel
theorem dX5_town_2 : decode cX5_town 2 = .ok (.bipush 8, 2) := by decide +kernel
theorem dX5_town_4 : decode cX5_town 4 = .ok (.invokestatic 87, 3) := by decide +kernel
theorem dX5_town_7 : decode cX5_town 7 = .ok (.ifCond .eq 12, 3) := by decide +kernel
theorem dX5_town_10 : decode cX5_town 10 = .ok (.iload_n 2, 1) := by decide +kernel
theorem dX5_town_11 : decode cX5_town 11 = .ok (.iconst 0, 1) := by decide +kernel
theorem dX5_town_12 : decode cX5_town 12 = .ok (.iconst 1, 1) := by decide +kernel
theorem dX5_town_13 : decode cX5_town 13 = .ok (.invokestatic 87, 3) := by decide +kernel
theorem dX5_town_16 : decode cX5_town 16 = .ok (.ifCond .ne 6, 3) := by decide +kernel
theorem dX5_town_19 : decode cX5_town 19 = .ok (.bipush (-3), 2) := by decide +kernel
theorem dX5_town_21 : decode cX5_town 21 = .ok (.ireturn, 1) := by decide +kernel
theorem dX5_town_22 : decode cX5_town 22 = .ok (.iconst (-1), 1) := by decide +kernel
theorem dX5_town_23 : decode cX5_town 23 = .ok (.istore_n 3, 1) := by decide +kernel
theorem dX5_town_24 : decode cX5_town 24 = .ok (.iconst (-1), 1) := by decide +kernel
theorem dX5_town_25 : decode cX5_town 25 = .ok (.istore 4, 2) := by decide +kernel
theorem dX5_town_27 : decode cX5_town 27 = .ok (.iconst 0, 1) := by decide +kernel
theorem dX5_town_28 : decode cX5_town 28 = .ok (.istore 5, 2) := by decide +kernel
theorem dX5_town_30 : decode cX5_town 30 = .ok (.iload 5, 2) := by decide +kernel
theorem dX5_town_32 : decode cX5_town 32 = .ok (.iconst 1, 1) := by decide +kernel
theorem dX5_town_33 : decode cX5_town 33 = .ok (.aload_n 0, 1) := by decide +kernel
theorem dX5_town_34 : decode cX5_town 34 = .ok (.getfield 72, 3) := by decide +kernel
theorem dX5_town_37 : decode cX5_town 37 = .ok (.ishl, 1) := by decide +kernel
theorem dX5_town_38 : decode cX5_town 38 = .ok (.if_icmp .ge 212, 3) := by decide +kernel
theorem dX5_town_41 : decode cX5_town 41 = .ok (.aload_n 0, 1) := by decide +kernel
theorem dX5_town_42 : decode cX5_town 42 = .ok (.getfield 32, 3) := by decide +kernel
theorem dX5_town_45 : decode cX5_town 45 = .ok (.iconst 0, 1) := by decide +kernel
theorem dX5_town_46 : decode cX5_town 46 = .ok (.aload_n 0, 1) := by decide +kernel
theorem dX5_town_47 : decode cX5_town 47 = .ok (.getfield 35, 3) := by decide +kernel
theorem dX5_town_50 : decode cX5_town 50 = .ok (.iconst 0, 1) := by decide +kernel
theorem dX5_town_51 : decode cX5_town 51 = .ok (.invokestatic 218, 3) := by decide +kernel
theorem dX5_town_54 : decode cX5_town 54 = .ok (.iconst 1, 1) := by decide +kernel
theorem dX5_town_55 : decode cX5_town 55 = .ok (.istore 6, 2) := by decide +kernel
theorem dX5_town_57 : decode cX5_town 57 = .ok (.iconst 0, 1) := by decide +kernel
theorem dX5_town_58 : decode cX5_town 58 = .ok (.istore 7, 2) := by decide +kernel
theorem dX5_town_60 : decode cX5_town 60 = .ok (.iconst 0, 1) := by decide +kernel
end
section
theorem dX5_town_61 : decode cX5_town 61 = .ok (.istore 8, 2) := by decide +kernel
theorem dX5_town_63 : decode cX5_town 63 = .ok (.iload 8, 2) := by decide +kernel
theorem dX5_town_65 : decode cX5_town 65 = .ok (.aload_n 0, 1) := by decide +kernel
theorem dX5_town_66 : decode cX5_town 66 = .ok (.getfield 72, 3) := by decide +kernel
theorem dX5_town_69 : decode cX5_town 69 = .ok (.if_icmp .ge 116, 3) := by decide +kernel
theorem dX5_town_72 : decode cX5_town 72 = .ok (.iload 5, 2) := by decide +kernel
theorem dX5_town_74 : decode cX5_town 74 = .ok (.iload 8, 2) := by decide +kernel
theorem dX5_town_76 : decode cX5_town 76 = .ok (.invokestatic 177, 3) := by decide +kernel
theorem dX5_town_79 : decode cX5_town 79 = .ok (.ifCond .eq 57, 3) := by decide +kernel
theorem dX5_town_82 : decode cX5_town 82 = .ok (.iload 6, 2) := by decide +kernel
theorem dX5_town_84 : decode cX5_town 84 = .ok (.ifCond .eq 41, 3) := by decide +kernel
theorem dX5_town_87 : decode cX5_town 87 = .ok (.aload_n 0, 1) := by decide +kernel
theorem dX5_town_88 : decode cX5_town 88 = .ok (.getfield 32, 3) := by decide +kernel
theorem dX5_town_91 : decode cX5_town 91 = .ok (.iload 8, 2) := by decide +kernel
theorem dX5_town_93 : decode cX5_town 93 = .ok (.iaload, 1) := by decide +kernel
theorem dX5_town_94 : decode cX5_town 94 = .ok (.iconst 2, 1) := by decide +kernel
theorem dX5_town_95 : decode cX5_town 95 = .ok (.if_icmp .ge 30, 3) := by decide +kernel
theorem dX5_town_98 : decode cX5_town 98 = .ok (.aload_n 0, 1) := by decide +kernel
theorem dX5_town_99 : decode cX5_town 99 = .ok (.aload_n 0, 1) := by decide +kernel
theorem dX5_town_100 : decode cX5_town 100 = .ok (.getfield 32, 3) := by decide +kernel
theorem dX5_town_103 : decode cX5_town 103 = .ok (.iload 8, 2) := by decide +kernel
theorem dX5_town_105 : decode cX5_town 105 = .ok (.invokevirtual 189, 3) := by decide +kernel
theorem dX5_town_108 : decode cX5_town 108 = .ok (.ifCond .eq 17, 3) := by decide +kernel
theorem dX5_town_111 : decode cX5_town 111 = .ok (.aload_n 0, 1) := by decide +kernel
theorem dX5_town_112 : decode cX5_town 112 = .ok (.iload 8, 2) := by decide +kernel
theorem dX5_town_114 : decode cX5_town 114 = .ok (.invokevirtual 199, 3) := by decide +kernel
theorem dX5_town_117 : decode cX5_town 117 = .ok (.iconst 3, 1) := by decide +kernel
theorem dX5_town_118 : decode cX5_town 118 = .ok (.if_icmp .eq 7, 3) := by decide +kernel
theorem dX5_town_121 : decode cX5_town 121 = .ok (.iconst 1, 1) := by decide +kernel
theorem dX5_town_122 : decode cX5_town 122 = .ok (.goto 4, 3) := by decide +kernel
theorem dX5_town_125 : decode cX5_town 125 = .ok (.iconst 0, 1) := by decide +kernel
theorem dX5_town_126 : decode cX5_town 126 = .ok (.istore 6, 2) := by decide +kernel
theorem dX5_town_128 : decode cX5_town 128 = .ok (.aload_n 0, 1) := by decide +kernel
theorem dX5_town_129 : decode cX5_town 129 = .ok (.getfield 35, 3) := by decide +kernel
theorem dX5_town_132 : decode cX5_town 132 = .ok (.iload 8, 2) := by decide +kernel
theorem dX5_town_134 : decode cX5_town 134 = .ok (.iconst 2, 1) := by decide +kernel
theorem dX5_town_135 : decode cX5_town 135 = .ok (.iastore, 1) := by decide +kernel
theorem dX5_town_136 : decode cX5_town 136 = .ok (.iload 7, 2) := by decide +kernel
theorem dX5_town_138 : decode cX5_town 138 = .ok (.aload_n 0, 1) := by decide +kernel
theorem dX5_town_139 : decode cX5_town 139 = .ok (.iload 8, 2) := by decide +kernel
theorem dX5_town_141 : decode cX5_town 141 = .ok (.invokevirtual 199, 3) := by decide +kernel
theorem dX5_town_144 : decode cX5_town 144 = .ok (.iconst 2, 1) := by decide +kernel
theorem dX5_town_145 : decode cX5_town 145 = .ok (.if_icmp .ne 30, 3) := by decide +kernel
theorem dX5_town_148 : decode cX5_town 148 = .ok (.aload_n 0, 1) := by decide +kernel
theorem dX5_town_149 : decode cX5_town 149 = .ok (.aload_n 0, 1) := by decide +kernel
theorem dX5_town_150 : decode cX5_town 150 = .ok (.getfield 32, 3) := by decide +kernel
theorem dX5_town_153 : decode cX5_town 153 = .ok (.iload 8, 2) := by decide +kernel
theorem dX5_town_155 : decode cX5_town 155 = .ok (.invokevirtual 189, 3) := by decide +kernel
theorem dX5_town_158 : decode cX5_town 158 = .ok (.ifCond .eq 17, 3) := by decide +kernel
theorem dX5_town_161 : decode cX5_town 161 = .ok (.aload_n 0, 1) := by decide +kernel
theorem dX5_town_162 : decode cX5_town 162 = .ok (.getfield 35, 3) := by decide +kernel
theorem dX5_town_165 : decode cX5_town 165 = .ok (.iload 8, 2) := by decide +kernel
theorem dX5_town_167 : decode cX5_town 167 = .ok (.iaload, 1) := by decide +kernel
theorem dX5_town_168 : decode cX5_town 168 = .ok (.ifCond .ne 7, 3) := by decide +kernel
theorem dX5_town_171 : decode cX5_town 171 = .ok (.iconst 1, 1) := by decide +kernel
theorem dX5_town_172 : decode cX5_town 172 = .ok (.goto 4, 3) := by decide +kernel
theorem dX5_town_175 : decode cX5_town 175 = .ok (.iconst 0, 1) := by decide +kernel
theorem dX5_town_176 : decode cX5_town 176 = .ok (.iadd, 1) := by decide +kernel
theorem dX5_town_177 : decode cX5_town 177 = .ok (.istore 7, 2) := by decide +kernel
theorem dX5_town_179 : decode cX5_town 179 = .ok (.iinc 8 1, 3) := by decide +kernel
theorem dX5_town_182 : decode cX5_town 182 = .ok (.goto (-119), 3) := by decide +kernel
theorem dX5_town_185 : decode cX5_town 185 = .ok (.iload 6, 2) := by decide +kernel
theorem dX5_town_187 : decode cX5_town 187 = .ok (.ifCond .eq 25, 3) := by decide +kernel
theorem dX5_town_190 : decode cX5_town 190 = .ok (.iload 7, 2) := by decide +kernel
theorem dX5_town_192 : decode cX5_town 192 = .ok (.iload_n 1, 1) := by decide +kernel
theorem dX5_town_193 : decode cX5_town 193 = .ok (.if_icmp .lt 19, 3) := by decide +kernel
theorem dX5_town_196 : decode cX5_town 196 = .ok (.aload_n 0, 1) := by decide +kernel
theorem dX5_town_197 : decode cX5_town 197 = .ok (.aload_n 0, 1) := by decide +kernel
theorem dX5_town_198 : decode cX5_town 198 = .ok (.getfield 35, 3) := by decide +kernel
theorem dX5_town_201 : decode cX5_town 201 = .ok (.invokevirtual 235, 3) := by decide +kernel
theorem dX5_town_204 : decode cX5_town 204 = .ok (.iconst (-1), 1) := by decide +kernel
theorem dX5_town_205 : decode cX5_town 205 = .ok (.if_icmp .ne 7, 3) := by decide +kernel
theorem dX5_town_208 : decode cX5_town 208 = .ok (.iconst 1, 1) := by decide +kernel
theorem dX5_town_209 : decode cX5_town 209 = .ok (.goto 4, 3) := by decide +kernel
theorem dX5_town_212 : decode cX5_town 212 = .ok (.iconst 0, 1) := by decide +kernel
theorem dX5_town_213 : decode cX5_town 213 = .ok (.istore 6, 2) := by decide +kernel
theorem dX5_town_215 : decode cX5_town 215 = .ok (.aload_n 0, 1) := by decide +kernel
theorem dX5_town_216 : decode cX5_town 216 = .ok (.aload_n 0, 1) := by decide +kernel
theorem dX5_town_217 : decode cX5_town 217 = .ok (.getfield 35, 3) := by decide +kernel
theorem dX5_town_220 : decode cX5_town 220 = .ok (.invokevirtual 239, 3) := by decide +kernel
theorem dX5_town_223 : decode cX5_town 223 = .ok (.istore 8, 2) := by decide +kernel
theorem dX5_town_225 : decode cX5_town 225 = .ok (.iload 6, 2) := by decide +kernel
theorem dX5_town_227 : decode cX5_town 227 = .ok (.ifCond .eq 17, 3) := by decide +kernel
theorem dX5_town_230 : decode cX5_town 230 = .ok (.iload 8, 2) := by decide +kernel
theorem dX5_town_232 : decode cX5_town 232 = .ok (.iload 4, 2) := by decide +kernel
theorem dX5_town_234 : decode cX5_town 234 = .ok (.if_icmp .le 10, 3) := by decide +kernel
theorem dX5_town_237 : decode cX5_town 237 = .ok (.iload 8, 2) := by decide +kernel
theorem dX5_town_239 : decode cX5_town 239 = .ok (.istore 4, 2) := by decide +kernel
theorem dX5_town_241 : decode cX5_town 241 = .ok (.iload 5, 2) := by decide +kernel
theorem dX5_town_243 : decode cX5_town 243 = .ok (.istore_n 3, 1) := by decide +kernel
theorem dX5_town_244 : decode cX5_town 244 = .ok (.iinc 5 1, 3) := by decide +kernel
theorem dX5_town_247 : decode cX5_town 247 = .ok (.goto (-217), 3) := by decide +kernel
theorem dX5_town_250 : decode cX5_town 250 = .ok (.iload_n 2, 1) := by decide +kernel
theorem dX5_town_251 : decode cX5_town 251 = .ok (.ifCond .ne 8, 3) := by decide +kernel
theorem dX5_town_254 : decode cX5_town 254 = .ok (.iload 4, 2) := by decide +kernel
theorem dX5_town_256 : decode cX5_town 256 = .ok (.goto 4, 3) := by decide +kernel
theorem dX5_town_259 : decode cX5_town 259 = .ok (.iload_n 3, 1) := by decide +kernel
theorem dX5_town_260 : decode cX5_town 260 = .ok (.ireturn, 1) := by decide +kernel
theorem dX5_put_0 : decode cX5_put 0 = .ok (.aload_n 0, 1) := by decide +kernel
theorem dX5_put_1 : decode cX5_put 1 = .ok (.iload_n 1, 1) := by decide +kernel
theorem dX5_put_2 : decode cX5_put 2 = .ok (.invokevirtual 196, 3) := by decide +kernel
theorem dX5_put_5 : decode cX5_put 5 = .ok (.ifCond .ne 6, 3) := by decide +kernel
theorem dX5_put_8 : decode cX5_put 8 = .ok (.bipush (-2), 2) := by decide +kernel
theorem dX5_put_10 : decode cX5_put 10 = .ok (.ireturn, 1) := by decide +kernel
theorem dX5_put_11 : decode cX5_put 11 = .ok (.aload_n 0, 1) := by decide +kernel
theorem dX5_put_12 : decode cX5_put 12 = .ok (.getfield 78, 3) := by decide +kernel
theorem dX5_put_15 : decode cX5_put 15 = .ok (.bipush 8, 2) := by decide +kernel
theorem dX5_put_17 : decode cX5_put 17 = .ok (.if_icmp .ne 6, 3) := by decide +kernel
theorem dX5_put_20 : decode cX5_put 20 = .ok (.bipush (-5), 2) := by decide +kernel
theorem dX5_put_22 : decode cX5_put 22 = .ok (.ireturn, 1) := by decide +kernel
theorem dX5_put_23 : decode cX5_put 23 = .ok (.aload_n 0, 1) := by decide +kernel
theorem dX5_put_24 : decode cX5_put 24 = .ok (.getfield 48, 3) := by decide +kernel
theorem dX5_put_27 : decode cX5_put 27 = .ok (.aload_n 0, 1) := by decide +kernel
theorem dX5_put_28 : decode cX5_put 28 = .ok (.getfield 78, 3) := by decide +kernel
theorem dX5_put_31 : decode cX5_put 31 = .ok (.iload_n 1, 1) := by decide +kernel
theorem dX5_put_32 : decode cX5_put 32 = .ok (.iastore, 1) := by decide +kernel
theorem dX5_put_33 : decode cX5_put 33 = .ok (.aload_n 0, 1) := by decide +kernel
theorem dX5_put_34 : decode cX5_put 34 = .ok (.dup, 1) := by decide +kernel
theorem dX5_put_35 : decode cX5_put 35 = .ok (.getfield 78, 3) := by decide +kernel
theorem dX5_put_38 : decode cX5_put 38 = .ok (.iconst 1, 1) := by decide +kernel
theorem dX5_put_39 : decode cX5_put 39 = .ok (.iadd, 1) := by decide +kernel
theorem dX5_put_40 : decode cX5_put 40 = .ok (.putfield 78, 3) := by decide +kernel
theorem dX5_put_43 : decode cX5_put 43 = .ok (.aload_n 0, 1) := by decide +kernel
theorem dX5_put_44 : decode cX5_put 44 = .ok (.getfield 78, 3) := by decide +kernel
theorem dX5_put_47 : decode cX5_put 47 = .ok (.ireturn, 1) := by decide +kernel
theorem dX5_wipe_0 : decode cX5_wipe 0 = .ok (.aload_n 0, 1) := by decide +kernel
theorem dX5_wipe_1 : decode cX5_wipe 1 = .ok (.getfield 78, 3) := by decide +kernel
theorem dX5_wipe_4 : decode cX5_wipe 4 = .ok (.istore_n 1, 1) := by decide +kernel
theorem dX5_wipe_5 : decode cX5_wipe 5 = .ok (.aload_n 0, 1) := by decide +kernel
theorem dX5_wipe_6 : decode cX5_wipe 6 = .ok (.iconst 0, 1) := by decide +kernel
theorem dX5_wipe_7 : decode cX5_wipe 7 = .ok (.putfield 78, 3) := by decide +kernel
theorem dX5_wipe_10 : decode cX5_wipe 10 = .ok (.iload_n 1, 1) := by decide +kernel
theorem dX5_wipe_11 : decode cX5_wipe 11 = .ok (.ireturn, 1) := by decide +kernel
theorem dX5_goes_0 : decode cX5_goes 0 = .ok (.iload_n 1, 1) := by decide +kernel
theorem dX5_goes_1 : decode cX5_goes 1 = .ok (.iconst 0, 1) := by decide +kernel
theorem dX5_goes_2 : decode cX5_goes 2 = .ok (.iconst 1, 1) := by decide +kernel
theorem dX5_goes_3 : decode cX5_goes 3 = .ok (.invokestatic 87, 3) := by decide +kernel
theorem dX5_goes_6 : decode cX5_goes 6 = .ok (.ifCond .ne 6, 3) := by decide +kernel
theorem dX5_goes_9 : decode cX5_goes 9 = .ok (.bipush (-3), 2) := by decide +kernel
theorem dX5_goes_11 : decode cX5_goes 11 = .ok (.ireturn, 1) := by decide +kernel
theorem dX5_goes_12 : decode cX5_goes 12 = .ok (.aload_n 0, 1) := by decide +kernel
theorem dX5_goes_13 : decode cX5_goes 13 = .ok (.getfield 32, 3) := by decide +kernel
theorem dX5_goes_16 : decode cX5_goes 16 = .ok (.iconst 0, 1) := by decide +kernel
theorem dX5_goes_17 : decode cX5_goes 17 = .ok (.aload_n 0, 1) := by decide +kernel
theorem dX5_goes_18 : decode cX5_goes 18 = .ok (.getfield 35, 3) := by decide +kernel
theorem dX5_goes_21 : decode cX5_goes 21 = .ok (.iconst 0, 1) := by decide +kernel
theorem dX5_goes_22 : decode cX5_goes 22 = .ok (.invokestatic 218, 3) := by decide +kernel
theorem dX5_goes_25 : decode cX5_goes 25 = .ok (.iconst 0, 1) := by decide +kernel
theorem dX5_goes_26 : decode cX5_goes 26 = .ok (.istore_n 2, 1) := by decide +kernel
theorem dX5_goes_27 : decode cX5_goes 27 = .ok (.iload_n 2, 1) := by decide +kernel
theorem dX5_goes_28 : decode cX5_goes 28 = .ok (.aload_n 0, 1) := by decide +kernel
theorem dX5_goes_29 : decode cX5_goes 29 = .ok (.getfield 78, 3) := by decide +kernel
theorem dX5_goes_32 : decode cX5_goes 32 = .ok (.if_icmp .ge 45, 3) := by decide +kernel
theorem dX5_goes_35 : decode cX5_goes 35 = .ok (.aload_n 0, 1) := by decide +kernel
theorem dX5_goes_36 : decode cX5_goes 36 = .ok (.getfield 35, 3) := by decide +kernel
theorem dX5_goes_39 : decode cX5_goes 39 = .ok (.aload_n 0, 1) := by decide +kernel
theorem dX5_goes_40 : decode cX5_goes 40 = .ok (.getfield 48, 3) := by decide +kernel
theorem dX5_goes_43 : decode cX5_goes 43 = .ok (.iload_n 2, 1) := by decide +kernel
theorem dX5_goes_44 : decode cX5_goes 44 = .ok (.iaload, 1) := by decide +kernel
theorem dX5_goes_45 : decode cX5_goes 45 = .ok (.iconst 2, 1) := by decide +kernel
theorem dX5_goes_46 : decode cX5_goes 46 = .ok (.iastore, 1) := by decide +kernel
theorem dX5_goes_47 : decode cX5_goes 47 = .ok (.aload_n 0, 1) := by decide +kernel
theorem dX5_goes_48 : decode cX5_goes 48 = .ok (.aload_n 0, 1) := by decide +kernel
theorem dX5_goes_49 : decode cX5_goes 49 = .ok (.getfield 35, 3) := by decide +kernel
theorem dX5_goes_52 : decode cX5_goes 52 = .ok (.invokevirtual 235, 3) := by decide +kernel
theorem dX5_goes_55 : decode cX5_goes 55 = .ok (.istore_n 3, 1) := by decide +kernel
theorem dX5_goes_56 : decode cX5_goes 56 = .ok (.iload_n 3, 1) := by decide +kernel
theorem dX5_goes_57 : decode cX5_goes 57 = .ok (.iconst (-1), 1) := by decide +kernel
theorem dX5_goes_58 : decode cX5_goes 58 = .ok (.if_icmp .eq 13, 3) := by decide +kernel
theorem dX5_goes_61 : decode cX5_goes 61 = .ok (.iload_n 1, 1) := by decide +kernel
theorem dX5_goes_62 : decode cX5_goes 62 = .ok (.ifCond .ne 7, 3) := by decide +kernel
theorem dX5_goes_65 : decode cX5_goes 65 = .ok (.iload_n 2, 1) := by decide +kernel
theorem dX5_goes_66 : decode cX5_goes 66 = .ok (.goto 4, 3) := by decide +kernel
theorem dX5_goes_69 : decode cX5_goes 69 = .ok (.iload_n 3, 1) := by decide +kernel
theorem dX5_goes_70 : decode cX5_goes 70 = .ok (.ireturn, 1) := by decide +kernel
theorem dX5_goes_71 : decode cX5_goes 71 = .ok (.iinc 2 1, 3) := by decide +kernel
theorem dX5_goes_74 : decode cX5_goes 74 = .ok (.goto (-47), 3) := by decide +kernel
theorem dX5_goes_77 : decode cX5_goes 77 = .ok (.iconst (-1), 1) := by decide +kernel
theorem dX5_goes_78 : decode cX5_goes 78 = .ok (.ireturn, 1) := by decide +kernel
theorem dX5_task_0 : decode cX5_task 0 = .ok (.aload_n 0, 1) := by decide +kernel
theorem dX5_task_1 : decode cX5_task 1 = .ok (.iload_n 1, 1) := by decide +kernel
theorem dX5_task_2 : decode cX5_task 2 = .ok (.invokevirtual 196, 3) := by decide +kernel
theorem dX5_task_5 : decode cX5_task 5 = .ok (.ifCond .ne 6, 3) := by decide +kernel
theorem dX5_task_8 : decode cX5_task 8 = .ok (.bipush (-2), 2) := by decide +kernel
theorem dX5_task_10 : decode cX5_task 10 = .ok (.ireturn, 1) := by decide +kernel
theorem dX5_task_11 : decode cX5_task 11 = .ok (.aload_n 0, 1) := by decide +kernel
theorem dX5_task_12 : decode cX5_task 12 = .ok (.iload_n 1, 1) := by decide +kernel
theorem dX5_task_13 : decode cX5_task 13 = .ok (.invokevirtual 202, 3) := by decide +kernel
theorem dX5_task_16 : decode cX5_task 16 = .ok (.ifCond .eq 6, 3) := by decide +kernel
theorem dX5_task_19 : decode cX5_task 19 = .ok (.bipush (-4), 2) := by decide +kernel
theorem dX5_task_21 : decode cX5_task 21 = .ok (.ireturn, 1) := by decide +kernel
theorem dX5_task_22 : decode cX5_task 22 = .ok (.aload_n 0, 1) := by decide +kernel
theorem dX5_task_23 : decode cX5_task 23 = .ok (.getfield 81, 3) := by decide +kernel
theorem dX5_task_26 : decode cX5_task 26 = .ok (.iconst 4, 1) := by decide +kernel
theorem dX5_task_27 : decode cX5_task 27 = .ok (.if_icmp .ne 6, 3) := by decide +kernel
theorem dX5_task_30 : decode cX5_task 30 = .ok (.bipush (-5), 2) := by decide +kernel
theorem dX5_task_32 : decode cX5_task 32 = .ok (.ireturn, 1) := by decide +kernel
theorem dX5_task_33 : decode cX5_task 33 = .ok (.aload_n 0, 1) := by decide +kernel
theorem dX5_task_34 : decode cX5_task 34 = .ok (.getfield 51, 3) := by decide +kernel
theorem dX5_task_37 : decode cX5_task 37 = .ok (.aload_n 0, 1) := by decide +kernel
theorem dX5_task_38 : decode cX5_task 38 = .ok (.getfield 81, 3) := by decide +kernel
theorem dX5_task_41 : decode cX5_task 41 = .ok (.iload_n 1, 1) := by decide +kernel
theorem dX5_task_42 : decode cX5_task 42 = .ok (.iastore, 1) := by decide +kernel
theorem dX5_task_43 : decode cX5_task 43 = .ok (.aload_n 0, 1) := by decide +kernel
theorem dX5_task_44 : decode cX5_task 44 = .ok (.dup, 1) := by decide +kernel
theorem dX5_task_45 : decode cX5_task 45 = .ok (.getfield 81, 3) := by decide +kernel
theorem dX5_task_48 : decode cX5_task 48 = .ok (.iconst 1, 1) := by decide +kernel
theorem dX5_task_49 : decode cX5_task 49 = .ok (.iadd, 1) := by decide +kernel
theorem dX5_task_50 : decode cX5_task 50 = .ok (.putfield 81, 3) := by decide +kernel
theorem dX5_task_53 : decode cX5_task 53 = .ok (.aload_n 0, 1) := by decide +kernel
theorem dX5_task_54 : decode cX5_task 54 = .ok (.getfield 81, 3) := by decide +kernel
theorem dX5_task_57 : decode cX5_task 57 = .ok (.ireturn, 1) := by decide +kernel
theorem dX5_drop_0 : decode cX5_drop 0 = .ok (.aload_n 0, 1) := by decide +kernel
theorem dX5_drop_1 : decode cX5_drop 1 = .ok (.getfield 81, 3) := by decide +kernel
theorem dX5_drop_4 : decode cX5_drop 4 = .ok (.istore_n 1, 1) := by decide +kernel
theorem dX5_drop_5 : decode cX5_drop 5 = .ok (.aload_n 0, 1) := by decide +kernel
theorem dX5_drop_6 : decode cX5_drop 6 = .ok (.iconst 0, 1) := by decide +kernel
theorem dX5_drop_7 : decode cX5_drop 7 = .ok (.putfield 81, 3) := by decide +kernel
theorem dX5_drop_10 : decode cX5_drop 10 = .ok (.iload_n 1, 1) := by decide +kernel
theorem dX5_drop_11 : decode cX5_drop 11 = .ok (.ireturn, 1) := by decide +kernel
theorem dX5_placeOf_0 : decode cX5_placeOf 0 = .ok (.iload_n 0, 1) := by decide +kernel
theorem dX5_placeOf_1 : decode cX5_placeOf 1 = .ok (.bipush 10, 2) := by decide +kernel
theorem dX5_placeOf_3 : decode cX5_placeOf 3 = .ok (.imul, 1) := by decide +kernel
theorem dX5_placeOf_4 : decode cX5_placeOf 4 = .ok (.iload_n 1, 1) := by decide +kernel
theorem dX5_placeOf_5 : decode cX5_placeOf 5 = .ok (.bipush 9, 2) := by decide +kernel
theorem dX5_placeOf_7 : decode cX5_placeOf 7 = .ok (.if_icmp .le 8, 3) := by decide +kernel
theorem dX5_placeOf_10 : decode cX5_placeOf 10 = .ok (.bipush 9, 2) := by decide +kernel
theorem dX5_placeOf_12 : decode cX5_placeOf 12 = .ok (.goto 4, 3) := by decide +kernel
theorem dX5_placeOf_15 : decode cX5_placeOf 15 = .ok (.iload_n 1, 1) := by decide +kernel
theorem dX5_placeOf_16 : decode cX5_placeOf 16 = .ok (.iadd, 1) := by decide +kernel
theorem dX5_placeOf_17 : decode cX5_placeOf 17 = .ok (.bipush 16, 2) := by decide +kernel
theorem dX5_placeOf_19 : decode cX5_placeOf 19 = .ok (.imul, 1) := by decide +kernel
theorem dX5_placeOf_20 : decode cX5_placeOf 20 = .ok (.iload_n 2, 1) := by decide +kernel
theorem dX5_placeOf_21 : decode cX5_placeOf 21 = .ok (.iadd, 1) := by decide +kernel
theorem dX5_placeOf_22 : decode cX5_placeOf 22 = .ok (.bipush 8, 2) := by decide +kernel
theorem dX5_placeOf_24 : decode cX5_placeOf 24 = .ok (.imul, 1) := by decide +kernel
theorem dX5_placeOf_25 : decode cX5_placeOf 25 = .ok (.iload_n 3, 1) := by decide +kernel
theorem dX5_placeOf_26 : decode cX5_placeOf 26 = .ok (.iadd, 1) := by decide +kernel
theorem dX5_placeOf_27 : decode cX5_placeOf 27 = .ok (.ireturn, 1) := by decide +kernel
theorem dX5_goldBy_0 : decode cX5_goldBy 0 = .ok (.aload_n 0, 1) := by decide +kernel
theorem dX5_goldBy_1 : decode cX5_goldBy 1 = .ok (.iload_n 2, 1) := by decide +kernel
theorem dX5_goldBy_2 : decode cX5_goldBy 2 = .ok (.invokevirtual 211, 3) := by decide +kernel
theorem dX5_goldBy_5 : decode cX5_goldBy 5 = .ok (.istore 5, 2) := by decide +kernel
theorem dX5_goldBy_7 : decode cX5_goldBy 7 = .ok (.iload 5, 2) := by decide +kernel
theorem dX5_goldBy_9 : decode cX5_goldBy 9 = .ok (.iconst 2, 1) := by decide +kernel
theorem dX5_goldBy_10 : decode cX5_goldBy 10 = .ok (.if_icmp .eq 17, 3) := by decide +kernel
theorem dX5_goldBy_13 : decode cX5_goldBy 13 = .ok (.iload 5, 2) := by decide +kernel
theorem dX5_goldBy_15 : decode cX5_goldBy 15 = .ok (.iconst 1, 1) := by decide +kernel
theorem dX5_goldBy_16 : decode cX5_goldBy 16 = .ok (.if_icmp .ne 20, 3) := by decide +kernel
theorem dX5_goldBy_19 : decode cX5_goldBy 19 = .ok (.iload_n 1, 1) := by decide +kernel
theorem dX5_goldBy_20 : decode cX5_goldBy 20 = .ok (.aload_n 0, 1) := by decide +kernel
theorem dX5_goldBy_21 : decode cX5_goldBy 21 = .ok (.getfield 23, 3) := by decide +kernel
theorem dX5_goldBy_24 : decode cX5_goldBy 24 = .ok (.if_icmp .lt 12, 3) := by decide +kernel
theorem dX5_goldBy_27 : decode cX5_goldBy 27 = .ok (.iload 4, 2) := by decide +kernel
theorem dX5_goldBy_29 : decode cX5_goldBy 29 = .ok (.iconst 1, 1) := by decide +kernel
theorem dX5_goldBy_30 : decode cX5_goldBy 30 = .ok (.iload_n 3, 1) := by decide +kernel
theorem dX5_goldBy_31 : decode cX5_goldBy 31 = .ok (.ishl, 1) := by decide +kernel
theorem dX5_goldBy_32 : decode cX5_goldBy 32 = .ok (.ior, 1) := by decide +kernel
theorem dX5_goldBy_33 : decode cX5_goldBy 33 = .ok (.goto 5, 3) := by decide +kernel
theorem dX5_goldBy_36 : decode cX5_goldBy 36 = .ok (.iload 4, 2) := by decide +kernel
theorem dX5_goldBy_38 : decode cX5_goldBy 38 = .ok (.ireturn, 1) := by decide +kernel
theorem dX5_costBy_0 : decode cX5_costBy 0 = .ok (.iload_n 3, 1) := by decide +kernel
theorem dX5_costBy_1 : decode cX5_costBy 1 = .ok (.iload_n 1, 1) := by decide +kernel
theorem dX5_costBy_2 : decode cX5_costBy 2 = .ok (.invokestatic 177, 3) := by decide +kernel
theorem dX5_costBy_5 : decode cX5_costBy 5 = .ok (.ifCond .eq 29, 3) := by decide +kernel
theorem dX5_costBy_8 : decode cX5_costBy 8 = .ok (.iload_n 2, 1) := by decide +kernel
theorem dX5_costBy_9 : decode cX5_costBy 9 = .ok (.iload_n 1, 1) := by decide +kernel
theorem dX5_costBy_10 : decode cX5_costBy 10 = .ok (.invokestatic 177, 3) := by decide +kernel
theorem dX5_costBy_13 : decode cX5_costBy 13 = .ok (.ifCond .ne 21, 3) := by decide +kernel
theorem dX5_costBy_16 : decode cX5_costBy 16 = .ok (.aload_n 0, 1) := by decide +kernel
theorem dX5_costBy_17 : decode cX5_costBy 17 = .ok (.getfield 7, 3) := by decide +kernel
theorem dX5_costBy_20 : decode cX5_costBy 20 = .ok (.iconst 4, 1) := by decide +kernel
theorem dX5_costBy_21 : decode cX5_costBy 21 = .ok (.aload_n 0, 1) := by decide +kernel
theorem dX5_costBy_22 : decode cX5_costBy 22 = .ok (.getfield 63, 3) := by decide +kernel
theorem dX5_costBy_25 : decode cX5_costBy 25 = .ok (.iload_n 1, 1) := by decide +kernel
theorem dX5_costBy_26 : decode cX5_costBy 26 = .ok (.iaload, 1) := by decide +kernel
theorem dX5_costBy_27 : decode cX5_costBy 27 = .ok (.imul, 1) := by decide +kernel
theorem dX5_costBy_28 : decode cX5_costBy 28 = .ok (.iconst 1, 1) := by decide +kernel
theorem dX5_costBy_29 : decode cX5_costBy 29 = .ok (.iadd, 1) := by decide +kernel
theorem dX5_costBy_30 : decode cX5_costBy 30 = .ok (.iaload, 1) := by decide +kernel
theorem dX5_costBy_31 : decode cX5_costBy 31 = .ok (.goto 4, 3) := by decide +kernel
theorem dX5_costBy_34 : decode cX5_costBy 34 = .ok (.iconst 0, 1) := by decide +kernel
theorem dX5_costBy_35 : decode cX5_costBy 35 = .ok (.ireturn, 1) := by decide +kernel
theorem dX5_canDo_0 : decode cX5_canDo 0 = .ok (.iload_n 1, 1) := by decide +kernel
theorem dX5_canDo_1 : decode cX5_canDo 1 = .ok (.iconst 3, 1) := by decide +kernel
theorem dX5_canDo_2 : decode cX5_canDo 2 = .ok (.if_icmp .ge 5, 3) := by decide +kernel
theorem dX5_canDo_5 : decode cX5_canDo 5 = .ok (.iconst 1, 1) := by decide +kernel
theorem dX5_canDo_6 : decode cX5_canDo 6 = .ok (.ireturn, 1) := by decide +kernel
theorem dX5_canDo_7 : decode cX5_canDo 7 = .ok (.iload_n 1, 1) := by decide +kernel
theorem dX5_canDo_8 : decode cX5_canDo 8 = .ok (.bipush 10, 2) := by decide +kernel
theorem dX5_canDo_10 : decode cX5_canDo 10 = .ok (.irem, 1) := by decide +kernel
theorem dX5_canDo_11 : decode cX5_canDo 11 = .ok (.istore 4, 2) := by decide +kernel
theorem dX5_canDo_13 : decode cX5_canDo 13 = .ok (.iload 4, 2) := by decide +kernel
theorem dX5_canDo_15 : decode cX5_canDo 15 = .ok (.aload_n 0, 1) := by decide +kernel
theorem dX5_canDo_16 : decode cX5_canDo 16 = .ok (.getfield 81, 3) := by decide +kernel
theorem dX5_canDo_19 : decode cX5_canDo 19 = .ok (.if_icmp .ge 30, 3) := by decide +kernel
theorem dX5_canDo_22 : decode cX5_canDo 22 = .ok (.iload_n 3, 1) := by decide +kernel
theorem dX5_canDo_23 : decode cX5_canDo 23 = .ok (.iload 4, 2) := by decide +kernel
theorem dX5_canDo_25 : decode cX5_canDo 25 = .ok (.invokestatic 177, 3) := by decide +kernel
theorem dX5_canDo_28 : decode cX5_canDo 28 = .ok (.ifCond .ne 21, 3) := by decide +kernel
theorem dX5_canDo_31 : decode cX5_canDo 31 = .ok (.aload_n 0, 1) := by decide +kernel
theorem dX5_canDo_32 : decode cX5_canDo 32 = .ok (.aload_n 0, 1) := by decide +kernel
theorem dX5_canDo_33 : decode cX5_canDo 33 = .ok (.getfield 32, 3) := by decide +kernel
theorem dX5_canDo_36 : decode cX5_canDo 36 = .ok (.aload_n 0, 1) := by decide +kernel
theorem dX5_canDo_37 : decode cX5_canDo 37 = .ok (.getfield 51, 3) := by decide +kernel
theorem dX5_canDo_40 : decode cX5_canDo 40 = .ok (.iload 4, 2) := by decide +kernel
theorem dX5_canDo_42 : decode cX5_canDo 42 = .ok (.iaload, 1) := by decide +kernel
theorem dX5_canDo_43 : decode cX5_canDo 43 = .ok (.invokevirtual 189, 3) := by decide +kernel
theorem dX5_canDo_46 : decode cX5_canDo 46 = .ok (.ifCond .ne 5, 3) := by decide +kernel
theorem dX5_canDo_49 : decode cX5_canDo 49 = .ok (.iconst 0, 1) := by decide +kernel
theorem dX5_canDo_50 : decode cX5_canDo 50 = .ok (.ireturn, 1) := by decide +kernel
theorem dX5_canDo_51 : decode cX5_canDo 51 = .ok (.iload_n 1, 1) := by decide +kernel
theorem dX5_canDo_52 : decode cX5_canDo 52 = .ok (.bipush 20, 2) := by decide +kernel
theorem dX5_canDo_54 : decode cX5_canDo 54 = .ok (.if_icmp .ge 19, 3) := by decide +kernel
theorem dX5_canDo_57 : decode cX5_canDo 57 = .ok (.aload_n 0, 1) := by decide +kernel
theorem dX5_canDo_58 : decode cX5_canDo 58 = .ok (.iload_n 2, 1) := by decide +kernel
theorem dX5_canDo_59 : decode cX5_canDo 59 = .ok (.invokevirtual 211, 3) := by decide +kernel
theorem dX5_canDo_62 : decode cX5_canDo 62 = .ok (.ifCond .ne 7, 3) := by decide +kernel
theorem dX5_canDo_65 : decode cX5_canDo 65 = .ok (.iconst 1, 1) := by decide +kernel
theorem dX5_canDo_66 : decode cX5_canDo 66 = .ok (.goto 32, 3) := by decide +kernel
theorem dX5_canDo_69 : decode cX5_canDo 69 = .ok (.iconst 0, 1) := by decide +kernel
theorem dX5_canDo_70 : decode cX5_canDo 70 = .ok (.goto 28, 3) := by decide +kernel
theorem dX5_canDo_73 : decode cX5_canDo 73 = .ok (.aload_n 0, 1) := by decide +kernel
theorem dX5_canDo_74 : decode cX5_canDo 74 = .ok (.getfield 63, 3) := by decide +kernel
theorem dX5_canDo_77 : decode cX5_canDo 77 = .ok (.aload_n 0, 1) := by decide +kernel
theorem dX5_canDo_78 : decode cX5_canDo 78 = .ok (.aload_n 0, 1) := by decide +kernel
theorem dX5_canDo_79 : decode cX5_canDo 79 = .ok (.getfield 51, 3) := by decide +kernel
theorem dX5_canDo_82 : decode cX5_canDo 82 = .ok (.iload 4, 2) := by decide +kernel
theorem dX5_canDo_84 : decode cX5_canDo 84 = .ok (.iaload, 1) := by decide +kernel
theorem dX5_canDo_85 : decode cX5_canDo 85 = .ok (.invokevirtual 181, 3) := by decide +kernel
theorem dX5_canDo_88 : decode cX5_canDo 88 = .ok (.iaload, 1) := by decide +kernel
theorem dX5_canDo_89 : decode cX5_canDo 89 = .ok (.iconst (-1), 1) := by decide +kernel
theorem dX5_canDo_90 : decode cX5_canDo 90 = .ok (.if_icmp .eq 7, 3) := by decide +kernel
theorem dX5_canDo_93 : decode cX5_canDo 93 = .ok (.iconst 1, 1) := by decide +kernel
theorem dX5_canDo_94 : decode cX5_canDo 94 = .ok (.goto 4, 3) := by decide +kernel
theorem dX5_canDo_97 : decode cX5_canDo 97 = .ok (.iconst 0, 1) := by decide +kernel
theorem dX5_canDo_98 : decode cX5_canDo 98 = .ok (.ireturn, 1) := by decide +kernel
theorem dX5_behind_0 : decode cX5_behind 0 = .ok (.iload_n 1, 1) := by decide +kernel
theorem dX5_behind_1 : decode cX5_behind 1 = .ok (.bipush 20, 2) := by decide +kernel
theorem dX5_behind_3 : decode cX5_behind 3 = .ok (.if_icmp .ge 8, 3) := by decide +kernel
theorem dX5_behind_6 : decode cX5_behind 6 = .ok (.iload 5, 2) := by decide +kernel
theorem dX5_behind_8 : decode cX5_behind 8 = .ok (.goto 24, 3) := by decide +kernel
theorem dX5_behind_11 : decode cX5_behind 11 = .ok (.aload_n 0, 1) := by decide +kernel
theorem dX5_behind_12 : decode cX5_behind 12 = .ok (.iload_n 2, 1) := by decide +kernel
theorem dX5_behind_13 : decode cX5_behind 13 = .ok (.iload_n 3, 1) := by decide +kernel
theorem dX5_behind_14 : decode cX5_behind 14 = .ok (.aload_n 0, 1) := by decide +kernel
theorem dX5_behind_15 : decode cX5_behind 15 = .ok (.aload_n 0, 1) := by decide +kernel
theorem dX5_behind_16 : decode cX5_behind 16 = .ok (.getfield 51, 3) := by decide +kernel
theorem dX5_behind_19 : decode cX5_behind 19 = .ok (.iload_n 1, 1) := by decide +kernel
theorem dX5_behind_20 : decode cX5_behind 20 = .ok (.bipush 10, 2) := by decide +kernel
theorem dX5_behind_22 : decode cX5_behind 22 = .ok (.irem, 1) := by decide +kernel
theorem dX5_behind_23 : decode cX5_behind 23 = .ok (.iaload, 1) := by decide +kernel
theorem dX5_behind_24 : decode cX5_behind 24 = .ok (.invokevirtual 181, 3) := by decide +kernel
theorem dX5_behind_27 : decode cX5_behind 27 = .ok (.iload 5, 2) := by decide +kernel
theorem dX5_behind_29 : decode cX5_behind 29 = .ok (.invokevirtual 242, 3) := by decide +kernel
theorem dX5_behind_32 : decode cX5_behind 32 = .ok (.istore 6, 2) := by decide +kernel
theorem dX5_behind_34 : decode cX5_behind 34 = .ok (.iload_n 1, 1) := by decide +kernel
theorem dX5_behind_35 : decode cX5_behind 35 = .ok (.iconst 3, 1) := by decide +kernel
theorem dX5_behind_36 : decode cX5_behind 36 = .ok (.if_icmp .ge 8, 3) := by decide +kernel
theorem dX5_behind_39 : decode cX5_behind 39 = .ok (.iload 4, 2) := by decide +kernel
theorem dX5_behind_41 : decode cX5_behind 41 = .ok (.goto 12, 3) := by decide +kernel
theorem dX5_behind_44 : decode cX5_behind 44 = .ok (.iload 4, 2) := by decide +kernel
theorem dX5_behind_46 : decode cX5_behind 46 = .ok (.iconst 1, 1) := by decide +kernel
theorem dX5_behind_47 : decode cX5_behind 47 = .ok (.iload_n 1, 1) := by decide +kernel
theorem dX5_behind_48 : decode cX5_behind 48 = .ok (.bipush 10, 2) := by decide +kernel
theorem dX5_behind_50 : decode cX5_behind 50 = .ok (.irem, 1) := by decide +kernel
theorem dX5_behind_51 : decode cX5_behind 51 = .ok (.ishl, 1) := by decide +kernel
theorem dX5_behind_52 : decode cX5_behind 52 = .ok (.ior, 1) := by decide +kernel
theorem dX5_behind_53 : decode cX5_behind 53 = .ok (.istore 7, 2) := by decide +kernel
theorem dX5_behind_55 : decode cX5_behind 55 = .ok (.iload_n 2, 1) := by decide +kernel
theorem dX5_behind_56 : decode cX5_behind 56 = .ok (.iconst 1, 1) := by decide +kernel
theorem dX5_behind_57 : decode cX5_behind 57 = .ok (.iadd, 1) := by decide +kernel
theorem dX5_behind_58 : decode cX5_behind 58 = .ok (.iload_n 1, 1) := by decide +kernel
theorem dX5_behind_59 : decode cX5_behind 59 = .ok (.iconst 2, 1) := by decide +kernel
theorem dX5_behind_60 : decode cX5_behind 60 = .ok (.if_icmp .ne 7, 3) := by decide +kernel
theorem dX5_behind_63 : decode cX5_behind 63 = .ok (.iconst 1, 1) := by decide +kernel
theorem dX5_behind_64 : decode cX5_behind 64 = .ok (.goto 6, 3) := by decide +kernel
theorem dX5_behind_67 : decode cX5_behind 67 = .ok (.iload_n 3, 1) := by decide +kernel
theorem dX5_behind_68 : decode cX5_behind 68 = .ok (.iconst 1, 1) := by decide +kernel
theorem dX5_behind_69 : decode cX5_behind 69 = .ok (.iadd, 1) := by decide +kernel
theorem dX5_behind_70 : decode cX5_behind 70 = .ok (.iload 7, 2) := by decide +kernel
theorem dX5_behind_72 : decode cX5_behind 72 = .ok (.iload 6, 2) := by decide +kernel
theorem dX5_behind_74 : decode cX5_behind 74 = .ok (.invokestatic 246, 3) := by decide +kernel
theorem dX5_behind_77 : decode cX5_behind 77 = .ok (.ireturn, 1) := by decide +kernel
theorem dX5_costOf_0 : decode cX5_costOf 0 = .ok (.iload_n 1, 1) := by decide +kernel
theorem dX5_costOf_1 : decode cX5_costOf 1 = .ok (.bipush 20, 2) := by decide +kernel
theorem dX5_costOf_3 : decode cX5_costOf 3 = .ok (.if_icmp .ge 5, 3) := by decide +kernel
theorem dX5_costOf_6 : decode cX5_costOf 6 = .ok (.iconst 0, 1) := by decide +kernel
theorem dX5_costOf_7 : decode cX5_costOf 7 = .ok (.ireturn, 1) := by decide +kernel
theorem dX5_costOf_8 : decode cX5_costOf 8 = .ok (.aload_n 0, 1) := by decide +kernel
theorem dX5_costOf_9 : decode cX5_costOf 9 = .ok (.aload_n 0, 1) := by decide +kernel
theorem dX5_costOf_10 : decode cX5_costOf 10 = .ok (.getfield 51, 3) := by decide +kernel
theorem dX5_costOf_13 : decode cX5_costOf 13 = .ok (.iload_n 1, 1) := by decide +kernel
theorem dX5_costOf_14 : decode cX5_costOf 14 = .ok (.bipush 10, 2) := by decide +kernel
theorem dX5_costOf_16 : decode cX5_costOf 16 = .ok (.irem, 1) := by decide +kernel
theorem dX5_costOf_17 : decode cX5_costOf 17 = .ok (.iaload, 1) := by decide +kernel
theorem dX5_costOf_18 : decode cX5_costOf 18 = .ok (.invokevirtual 181, 3) := by decide +kernel
theorem dX5_costOf_21 : decode cX5_costOf 21 = .ok (.istore 5, 2) := by decide +kernel
theorem dX5_costOf_23 : decode cX5_costOf 23 = .ok (.aload_n 0, 1) := by decide +kernel
theorem dX5_costOf_24 : decode cX5_costOf 24 = .ok (.iload 5, 2) := by decide +kernel
theorem dX5_costOf_26 : decode cX5_costOf 26 = .ok (.iload 4, 2) := by decide +kernel
theorem dX5_costOf_28 : decode cX5_costOf 28 = .ok (.aload_n 0, 1) := by decide +kernel
theorem dX5_costOf_29 : decode cX5_costOf 29 = .ok (.iload_n 2, 1) := by decide +kernel
theorem dX5_costOf_30 : decode cX5_costOf 30 = .ok (.iload_n 3, 1) := by decide +kernel
theorem dX5_costOf_31 : decode cX5_costOf 31 = .ok (.iload 5, 2) := by decide +kernel
theorem dX5_costOf_33 : decode cX5_costOf 33 = .ok (.iload 4, 2) := by decide +kernel
theorem dX5_costOf_35 : decode cX5_costOf 35 = .ok (.invokevirtual 242, 3) := by decide +kernel
theorem dX5_costOf_38 : decode cX5_costOf 38 = .ok (.invokevirtual 249, 3) := by decide +kernel
theorem dX5_costOf_41 : decode cX5_costOf 41 = .ok (.ireturn, 1) := by decide +kernel
theorem dX5_deedAt_0 : decode cX5_deedAt 0 = .ok (.iload_n 0, 1) := by decide +kernel
theorem dX5_deedAt_1 : decode cX5_deedAt 1 = .ok (.iconst 2, 1) := by decide +kernel
theorem dX5_deedAt_2 : decode cX5_deedAt 2 = .ok (.if_icmp .ge 9, 3) := by decide +kernel
theorem dX5_deedAt_5 : decode cX5_deedAt 5 = .ok (.iconst 1, 1) := by decide +kernel
theorem dX5_deedAt_6 : decode cX5_deedAt 6 = .ok (.iload_n 0, 1) := by decide +kernel
theorem dX5_deedAt_7 : decode cX5_deedAt 7 = .ok (.iadd, 1) := by decide +kernel
theorem dX5_deedAt_8 : decode cX5_deedAt 8 = .ok (.goto 20, 3) := by decide +kernel
theorem dX5_deedAt_11 : decode cX5_deedAt 11 = .ok (.iload_n 0, 1) := by decide +kernel
theorem dX5_deedAt_12 : decode cX5_deedAt 12 = .ok (.bipush 6, 2) := by decide +kernel
theorem dX5_deedAt_14 : decode cX5_deedAt 14 = .ok (.if_icmp .ge 10, 3) := by decide +kernel
theorem dX5_deedAt_17 : decode cX5_deedAt 17 = .ok (.bipush 8, 2) := by decide +kernel
theorem dX5_deedAt_19 : decode cX5_deedAt 19 = .ok (.iload_n 0, 1) := by decide +kernel
theorem dX5_deedAt_20 : decode cX5_deedAt 20 = .ok (.iadd, 1) := by decide +kernel
theorem dX5_deedAt_21 : decode cX5_deedAt 21 = .ok (.goto 7, 3) := by decide +kernel
theorem dX5_deedAt_24 : decode cX5_deedAt 24 = .ok (.bipush 14, 2) := by decide +kernel
theorem dX5_deedAt_26 : decode cX5_deedAt 26 = .ok (.iload_n 0, 1) := by decide +kernel
theorem dX5_deedAt_27 : decode cX5_deedAt 27 = .ok (.iadd, 1) := by decide +kernel
theorem dX5_deedAt_28 : decode cX5_deedAt 28 = .ok (.ireturn, 1) := by decide +kernel
theorem dX5_layPlans_0 : decode cX5_layPlans 0 = .ok (.aload_n 0, 1) := by decide +kernel
theorem dX5_layPlans_1 : decode cX5_layPlans 1 = .ok (.iconst 0, 1) := by decide +kernel
theorem dX5_layPlans_2 : decode cX5_layPlans 2 = .ok (.putfield 253, 3) := by decide +kernel
theorem dX5_layPlans_5 : decode cX5_layPlans 5 = .ok (.iconst 0, 1) := by decide +kernel
theorem dX5_layPlans_6 : decode cX5_layPlans 6 = .ok (.istore_n 1, 1) := by decide +kernel
theorem dX5_layPlans_7 : decode cX5_layPlans 7 = .ok (.iload_n 1, 1) := by decide +kernel
theorem dX5_layPlans_8 : decode cX5_layPlans 8 = .ok (.iconst 3, 1) := by decide +kernel
theorem dX5_layPlans_9 : decode cX5_layPlans 9 = .ok (.if_icmp .ge 61, 3) := by decide +kernel
theorem dX5_layPlans_12 : decode cX5_layPlans 12 = .ok (.aload_n 0, 1) := by decide +kernel
theorem dX5_layPlans_13 : decode cX5_layPlans 13 = .ok (.getfield 63, 3) := by decide +kernel
theorem dX5_layPlans_16 : decode cX5_layPlans 16 = .ok (.iload_n 1, 1) := by decide +kernel
theorem dX5_layPlans_17 : decode cX5_layPlans 17 = .ok (.aload_n 0, 1) := by decide +kernel
theorem dX5_layPlans_18 : decode cX5_layPlans 18 = .ok (.iload_n 1, 1) := by decide +kernel
theorem dX5_layPlans_19 : decode cX5_layPlans 19 = .ok (.invokevirtual 208, 3) := by decide +kernel
theorem dX5_layPlans_22 : decode cX5_layPlans 22 = .ok (.iastore, 1) := by decide +kernel
theorem dX5_layPlans_23 : decode cX5_layPlans 23 = .ok (.aload_n 0, 1) := by decide +kernel
theorem dX5_layPlans_24 : decode cX5_layPlans 24 = .ok (.aload_n 0, 1) := by decide +kernel
theorem dX5_layPlans_25 : decode cX5_layPlans 25 = .ok (.getfield 253, 3) := by decide +kernel
theorem dX5_layPlans_28 : decode cX5_layPlans 28 = .ok (.aload_n 0, 1) := by decide +kernel
theorem dX5_layPlans_29 : decode cX5_layPlans 29 = .ok (.getfield 63, 3) := by decide +kernel
theorem dX5_layPlans_32 : decode cX5_layPlans 32 = .ok (.iload_n 1, 1) := by decide +kernel
theorem dX5_layPlans_33 : decode cX5_layPlans 33 = .ok (.iaload, 1) := by decide +kernel
theorem dX5_layPlans_34 : decode cX5_layPlans 34 = .ok (.iconst (-1), 1) := by decide +kernel
theorem dX5_layPlans_35 : decode cX5_layPlans 35 = .ok (.if_icmp .eq 24, 3) := by decide +kernel
theorem dX5_layPlans_38 : decode cX5_layPlans 38 = .ok (.aload_n 0, 1) := by decide +kernel
theorem dX5_layPlans_39 : decode cX5_layPlans 39 = .ok (.getfield 32, 3) := by decide +kernel
theorem dX5_layPlans_42 : decode cX5_layPlans 42 = .ok (.aload_n 0, 1) := by decide +kernel
theorem dX5_layPlans_43 : decode cX5_layPlans 43 = .ok (.getfield 63, 3) := by decide +kernel
theorem dX5_layPlans_46 : decode cX5_layPlans 46 = .ok (.iload_n 1, 1) := by decide +kernel
theorem dX5_layPlans_47 : decode cX5_layPlans 47 = .ok (.iaload, 1) := by decide +kernel
theorem dX5_layPlans_48 : decode cX5_layPlans 48 = .ok (.iaload, 1) := by decide +kernel
theorem dX5_layPlans_49 : decode cX5_layPlans 49 = .ok (.iconst 2, 1) := by decide +kernel
theorem dX5_layPlans_50 : decode cX5_layPlans 50 = .ok (.if_icmp .ne 9, 3) := by decide +kernel
theorem dX5_layPlans_53 : decode cX5_layPlans 53 = .ok (.iconst 1, 1) := by decide +kernel
theorem dX5_layPlans_54 : decode cX5_layPlans 54 = .ok (.iload_n 1, 1) := by decide +kernel
theorem dX5_layPlans_55 : decode cX5_layPlans 55 = .ok (.ishl, 1) := by decide +kernel
theorem dX5_layPlans_56 : decode cX5_layPlans 56 = .ok (.goto 4, 3) := by decide +kernel
theorem dX5_layPlans_59 : decode cX5_layPlans 59 = .ok (.iconst 0, 1) := by decide +kernel
theorem dX5_layPlans_60 : decode cX5_layPlans 60 = .ok (.ior, 1) := by decide +kernel
theorem dX5_layPlans_61 : decode cX5_layPlans 61 = .ok (.putfield 253, 3) := by decide +kernel
theorem dX5_layPlans_64 : decode cX5_layPlans 64 = .ok (.iinc 1 1, 3) := by decide +kernel
theorem dX5_layPlans_67 : decode cX5_layPlans 67 = .ok (.goto (-60), 3) := by decide +kernel
theorem dX5_layPlans_70 : decode cX5_layPlans 70 = .ok (.iconst 1, 1) := by decide +kernel
theorem dX5_layPlans_71 : decode cX5_layPlans 71 = .ok (.aload_n 0, 1) := by decide +kernel
theorem dX5_layPlans_72 : decode cX5_layPlans 72 = .ok (.getfield 81, 3) := by decide +kernel
theorem dX5_layPlans_75 : decode cX5_layPlans 75 = .ok (.ishl, 1) := by decide +kernel
theorem dX5_layPlans_76 : decode cX5_layPlans 76 = .ok (.iconst 1, 1) := by decide +kernel
theorem dX5_layPlans_77 : decode cX5_layPlans 77 = .ok (.isub, 1) := by decide +kernel
theorem dX5_layPlans_78 : decode cX5_layPlans 78 = .ok (.istore_n 1, 1) := by decide +kernel
theorem dX5_layPlans_79 : decode cX5_layPlans 79 = .ok (.bipush 24, 2) := by decide +kernel
theorem dX5_layPlans_81 : decode cX5_layPlans 81 = .ok (.istore_n 2, 1) := by decide +kernel
theorem dX5_layPlans_82 : decode cX5_layPlans 82 = .ok (.iload_n 2, 1) := by decide +kernel
theorem dX5_layPlans_83 : decode cX5_layPlans 83 = .ok (.aload_n 0, 1) := by decide +kernel
theorem dX5_layPlans_84 : decode cX5_layPlans 84 = .ok (.getfield 32, 3) := by decide +kernel
theorem dX5_layPlans_87 : decode cX5_layPlans 87 = .ok (.bipush 10, 2) := by decide +kernel
theorem dX5_layPlans_89 : decode cX5_layPlans 89 = .ok (.iaload, 1) := by decide +kernel
theorem dX5_layPlans_90 : decode cX5_layPlans 90 = .ok (.if_icmp .lt 263, 3) := by decide +kernel
theorem dX5_layPlans_93 : decode cX5_layPlans 93 = .ok (.iconst 0, 1) := by decide +kernel
theorem dX5_layPlans_94 : decode cX5_layPlans 94 = .ok (.istore_n 3, 1) := by decide +kernel
theorem dX5_layPlans_95 : decode cX5_layPlans 95 = .ok (.iload_n 3, 1) := by decide +kernel
theorem dX5_layPlans_96 : decode cX5_layPlans 96 = .ok (.sipush 1280, 3) := by decide +kernel
theorem dX5_layPlans_99 : decode cX5_layPlans 99 = .ok (.if_icmp .ge 248, 3) := by decide +kernel
theorem dX5_layPlans_102 : decode cX5_layPlans 102 = .ok (.iload_n 3, 1) := by decide +kernel
theorem dX5_layPlans_103 : decode cX5_layPlans 103 = .ok (.sipush 128, 3) := by decide +kernel
theorem dX5_layPlans_106 : decode cX5_layPlans 106 = .ok (.idiv, 1) := by decide +kernel
theorem dX5_layPlans_107 : decode cX5_layPlans 107 = .ok (.istore 4, 2) := by decide +kernel
theorem dX5_layPlans_109 : decode cX5_layPlans 109 = .ok (.iload_n 3, 1) := by decide +kernel
theorem dX5_layPlans_110 : decode cX5_layPlans 110 = .ok (.bipush 8, 2) := by decide +kernel
theorem dX5_layPlans_112 : decode cX5_layPlans 112 = .ok (.idiv, 1) := by decide +kernel
theorem dX5_layPlans_113 : decode cX5_layPlans 113 = .ok (.bipush 16, 2) := by decide +kernel
theorem dX5_layPlans_115 : decode cX5_layPlans 115 = .ok (.irem, 1) := by decide +kernel
theorem dX5_layPlans_116 : decode cX5_layPlans 116 = .ok (.istore 5, 2) := by decide +kernel
theorem dX5_layPlans_118 : decode cX5_layPlans 118 = .ok (.iload_n 3, 1) := by decide +kernel
theorem dX5_layPlans_119 : decode cX5_layPlans 119 = .ok (.bipush 8, 2) := by decide +kernel
theorem dX5_layPlans_121 : decode cX5_layPlans 121 = .ok (.irem, 1) := by decide +kernel
theorem dX5_layPlans_122 : decode cX5_layPlans 122 = .ok (.istore 6, 2) := by decide +kernel
theorem dX5_layPlans_124 : decode cX5_layPlans 124 = .ok (.sipush 1280, 3) := by decide +kernel
theorem dX5_layPlans_127 : decode cX5_layPlans 127 = .ok (.iload_n 2, 1) := by decide +kernel
theorem dX5_layPlans_128 : decode cX5_layPlans 128 = .ok (.imul, 1) := by decide +kernel
theorem dX5_layPlans_129 : decode cX5_layPlans 129 = .ok (.iload_n 3, 1) := by decide +kernel
theorem dX5_layPlans_130 : decode cX5_layPlans 130 = .ok (.iadd, 1) := by decide +kernel
theorem dX5_layPlans_131 : decode cX5_layPlans 131 = .ok (.istore 7, 2) := by decide +kernel
theorem dX5_layPlans_133 : decode cX5_layPlans 133 = .ok (.aload_n 0, 1) := by decide +kernel
theorem dX5_layPlans_134 : decode cX5_layPlans 134 = .ok (.getfield 57, 3) := by decide +kernel
theorem dX5_layPlans_137 : decode cX5_layPlans 137 = .ok (.iload 7, 2) := by decide +kernel
theorem dX5_layPlans_139 : decode cX5_layPlans 139 = .ok (.iload 5, 2) := by decide +kernel
theorem dX5_layPlans_141 : decode cX5_layPlans 141 = .ok (.iload_n 1, 1) := by decide +kernel
theorem dX5_layPlans_142 : decode cX5_layPlans 142 = .ok (.if_icmp .ne 7, 3) := by decide +kernel
theorem dX5_layPlans_145 : decode cX5_layPlans 145 = .ok (.iconst 0, 1) := by decide +kernel
theorem dX5_layPlans_146 : decode cX5_layPlans 146 = .ok (.goto 6, 3) := by decide +kernel
theorem dX5_layPlans_149 : decode cX5_layPlans 149 = .ok (.sipush 9999, 3) := by decide +kernel
theorem dX5_layPlans_152 : decode cX5_layPlans 152 = .ok (.iastore, 1) := by decide +kernel
theorem dX5_layPlans_153 : decode cX5_layPlans 153 = .ok (.aload_n 0, 1) := by decide +kernel
theorem dX5_layPlans_154 : decode cX5_layPlans 154 = .ok (.getfield 60, 3) := by decide +kernel
theorem dX5_layPlans_157 : decode cX5_layPlans 157 = .ok (.iload 7, 2) := by decide +kernel
theorem dX5_layPlans_159 : decode cX5_layPlans 159 = .ok (.iload 5, 2) := by decide +kernel
theorem dX5_layPlans_161 : decode cX5_layPlans 161 = .ok (.iload_n 1, 1) := by decide +kernel
theorem dX5_layPlans_162 : decode cX5_layPlans 162 = .ok (.if_icmp .ne 9, 3) := by decide +kernel
theorem dX5_layPlans_165 : decode cX5_layPlans 165 = .ok (.iload_n 2, 1) := by decide +kernel
theorem dX5_layPlans_166 : decode cX5_layPlans 166 = .ok (.iconst 1, 1) := by decide +kernel
theorem dX5_layPlans_167 : decode cX5_layPlans 167 = .ok (.isub, 1) := by decide +kernel
theorem dX5_layPlans_168 : decode cX5_layPlans 168 = .ok (.goto 6, 3) := by decide +kernel
theorem dX5_layPlans_171 : decode cX5_layPlans 171 = .ok (.sipush 9999, 3) := by decide +kernel
theorem dX5_layPlans_174 : decode cX5_layPlans 174 = .ok (.iastore, 1) := by decide +kernel
theorem dX5_layPlans_175 : decode cX5_layPlans 175 = .ok (.iconst 0, 1) := by decide +kernel
theorem dX5_layPlans_176 : decode cX5_layPlans 176 = .ok (.istore 8, 2) := by decide +kernel
theorem dX5_layPlans_178 : decode cX5_layPlans 178 = .ok (.iload 8, 2) := by decide +kernel
theorem dX5_layPlans_180 : decode cX5_layPlans 180 = .ok (.bipush 10, 2) := by decide +kernel
theorem dX5_layPlans_182 : decode cX5_layPlans 182 = .ok (.if_icmp .ge 159, 3) := by decide +kernel
theorem dX5_layPlans_185 : decode cX5_layPlans 185 = .ok (.iload_n 2, 1) := by decide +kernel
theorem dX5_layPlans_186 : decode cX5_layPlans 186 = .ok (.bipush 24, 2) := by decide +kernel
theorem dX5_layPlans_188 : decode cX5_layPlans 188 = .ok (.if_icmp .ge 153, 3) := by decide +kernel
theorem dX5_layPlans_191 : decode cX5_layPlans 191 = .ok (.iload 4, 2) := by decide +kernel
theorem dX5_layPlans_193 : decode cX5_layPlans 193 = .ok (.ifCond .le 148, 3) := by decide +kernel
theorem dX5_layPlans_196 : decode cX5_layPlans 196 = .ok (.iload 5, 2) := by decide +kernel
theorem dX5_layPlans_198 : decode cX5_layPlans 198 = .ok (.iload_n 1, 1) := by decide +kernel
theorem dX5_layPlans_199 : decode cX5_layPlans 199 = .ok (.if_icmp .ge 142, 3) := by decide +kernel
theorem dX5_layPlans_202 : decode cX5_layPlans 202 = .ok (.iload 8, 2) := by decide +kernel
theorem dX5_layPlans_204 : decode cX5_layPlans 204 = .ok (.invokestatic 256, 3) := by decide +kernel
theorem dX5_layPlans_207 : decode cX5_layPlans 207 = .ok (.istore 9, 2) := by decide +kernel
theorem dX5_layPlans_209 : decode cX5_layPlans 209 = .ok (.aload_n 0, 1) := by decide +kernel
theorem dX5_layPlans_210 : decode cX5_layPlans 210 = .ok (.iload 9, 2) := by decide +kernel
theorem dX5_layPlans_212 : decode cX5_layPlans 212 = .ok (.iload 4, 2) := by decide +kernel
theorem dX5_layPlans_214 : decode cX5_layPlans 214 = .ok (.iload 5, 2) := by decide +kernel
theorem dX5_layPlans_216 : decode cX5_layPlans 216 = .ok (.invokevirtual 259, 3) := by decide +kernel
theorem dX5_layPlans_219 : decode cX5_layPlans 219 = .ok (.ifCond .eq 116, 3) := by decide +kernel
theorem dX5_layPlans_222 : decode cX5_layPlans 222 = .ok (.aload_n 0, 1) := by decide +kernel
theorem dX5_layPlans_223 : decode cX5_layPlans 223 = .ok (.iload 9, 2) := by decide +kernel
theorem dX5_layPlans_225 : decode cX5_layPlans 225 = .ok (.iload_n 2, 1) := by decide +kernel
theorem dX5_layPlans_226 : decode cX5_layPlans 226 = .ok (.iload 4, 2) := by decide +kernel
theorem dX5_layPlans_228 : decode cX5_layPlans 228 = .ok (.iload 5, 2) := by decide +kernel
theorem dX5_layPlans_230 : decode cX5_layPlans 230 = .ok (.iload 6, 2) := by decide +kernel
theorem dX5_layPlans_232 : decode cX5_layPlans 232 = .ok (.invokevirtual 262, 3) := by decide +kernel
theorem dX5_layPlans_235 : decode cX5_layPlans 235 = .ok (.istore 10, 2) := by decide +kernel
theorem dX5_layPlans_237 : decode cX5_layPlans 237 = .ok (.aload_n 0, 1) := by decide +kernel
theorem dX5_layPlans_238 : decode cX5_layPlans 238 = .ok (.getfield 57, 3) := by decide +kernel
theorem dX5_layPlans_241 : decode cX5_layPlans 241 = .ok (.iload 10, 2) := by decide +kernel
theorem dX5_layPlans_243 : decode cX5_layPlans 243 = .ok (.iaload, 1) := by decide +kernel
theorem dX5_layPlans_244 : decode cX5_layPlans 244 = .ok (.aload_n 0, 1) := by decide +kernel
theorem dX5_layPlans_245 : decode cX5_layPlans 245 = .ok (.iload 9, 2) := by decide +kernel
theorem dX5_layPlans_247 : decode cX5_layPlans 247 = .ok (.iload_n 2, 1) := by decide +kernel
theorem dX5_layPlans_248 : decode cX5_layPlans 248 = .ok (.iload 4, 2) := by decide +kernel
theorem dX5_layPlans_250 : decode cX5_layPlans 250 = .ok (.iload 6, 2) := by decide +kernel
theorem dX5_layPlans_252 : decode cX5_layPlans 252 = .ok (.invokevirtual 266, 3) := by decide +kernel
theorem dX5_layPlans_255 : decode cX5_layPlans 255 = .ok (.iadd, 1) := by decide +kernel
theorem dX5_layPlans_256 : decode cX5_layPlans 256 = .ok (.istore 11, 2) := by decide +kernel
theorem dX5_layPlans_258 : decode cX5_layPlans 258 = .ok (.aload_n 0, 1) := by decide +kernel
theorem dX5_layPlans_259 : decode cX5_layPlans 259 = .ok (.getfield 57, 3) := by decide +kernel
theorem dX5_layPlans_262 : decode cX5_layPlans 262 = .ok (.iload 10, 2) := by decide +kernel
theorem dX5_layPlans_264 : decode cX5_layPlans 264 = .ok (.iaload, 1) := by decide +kernel
theorem dX5_layPlans_265 : decode cX5_layPlans 265 = .ok (.sipush 9999, 3) := by decide +kernel
theorem dX5_layPlans_268 : decode cX5_layPlans 268 = .ok (.if_icmp .ge 67, 3) := by decide +kernel
theorem dX5_layPlans_271 : decode cX5_layPlans 271 = .ok (.iload 11, 2) := by decide +kernel
theorem dX5_layPlans_273 : decode cX5_layPlans 273 = .ok (.aload_n 0, 1) := by decide +kernel
theorem dX5_layPlans_274 : decode cX5_layPlans 274 = .ok (.getfield 57, 3) := by decide +kernel
theorem dX5_layPlans_277 : decode cX5_layPlans 277 = .ok (.iload 7, 2) := by decide +kernel
theorem dX5_layPlans_279 : decode cX5_layPlans 279 = .ok (.iaload, 1) := by decide +kernel
theorem dX5_layPlans_280 : decode cX5_layPlans 280 = .ok (.if_icmp .lt 32, 3) := by decide +kernel
theorem dX5_layPlans_283 : decode cX5_layPlans 283 = .ok (.iload 11, 2) := by decide +kernel
theorem dX5_layPlans_285 : decode cX5_layPlans 285 = .ok (.aload_n 0, 1) := by decide +kernel
theorem dX5_layPlans_286 : decode cX5_layPlans 286 = .ok (.getfield 57, 3) := by decide +kernel
theorem dX5_layPlans_289 : decode cX5_layPlans 289 = .ok (.iload 7, 2) := by decide +kernel
theorem dX5_layPlans_291 : decode cX5_layPlans 291 = .ok (.iaload, 1) := by decide +kernel
theorem dX5_layPlans_292 : decode cX5_layPlans 292 = .ok (.if_icmp .ne 43, 3) := by decide +kernel
theorem dX5_layPlans_295 : decode cX5_layPlans 295 = .ok (.aload_n 0, 1) := by decide +kernel
theorem dX5_layPlans_296 : decode cX5_layPlans 296 = .ok (.getfield 60, 3) := by decide +kernel
theorem dX5_layPlans_299 : decode cX5_layPlans 299 = .ok (.iload 10, 2) := by decide +kernel
theorem dX5_layPlans_301 : decode cX5_layPlans 301 = .ok (.iaload, 1) := by decide +kernel
theorem dX5_layPlans_302 : decode cX5_layPlans 302 = .ok (.aload_n 0, 1) := by decide +kernel
theorem dX5_layPlans_303 : decode cX5_layPlans 303 = .ok (.getfield 60, 3) := by decide +kernel
theorem dX5_layPlans_306 : decode cX5_layPlans 306 = .ok (.iload 7, 2) := by decide +kernel
theorem dX5_layPlans_308 : decode cX5_layPlans 308 = .ok (.iaload, 1) := by decide +kernel
theorem dX5_layPlans_309 : decode cX5_layPlans 309 = .ok (.if_icmp .ge 26, 3) := by decide +kernel
theorem dX5_layPlans_312 : decode cX5_layPlans 312 = .ok (.aload_n 0, 1) := by decide +kernel
theorem dX5_layPlans_313 : decode cX5_layPlans 313 = .ok (.getfield 57, 3) := by decide +kernel
theorem dX5_layPlans_316 : decode cX5_layPlans 316 = .ok (.iload 7, 2) := by decide +kernel
theorem dX5_layPlans_318 : decode cX5_layPlans 318 = .ok (.iload 11, 2) := by decide +kernel
theorem dX5_layPlans_320 : decode cX5_layPlans 320 = .ok (.iastore, 1) := by decide +kernel
theorem dX5_layPlans_321 : decode cX5_layPlans 321 = .ok (.aload_n 0, 1) := by decide +kernel
theorem dX5_layPlans_322 : decode cX5_layPlans 322 = .ok (.getfield 60, 3) := by decide +kernel
theorem dX5_layPlans_325 : decode cX5_layPlans 325 = .ok (.iload 7, 2) := by decide +kernel
theorem dX5_layPlans_327 : decode cX5_layPlans 327 = .ok (.aload_n 0, 1) := by decide +kernel
theorem dX5_layPlans_328 : decode cX5_layPlans 328 = .ok (.getfield 60, 3) := by decide +kernel
theorem dX5_layPlans_331 : decode cX5_layPlans 331 = .ok (.iload 10, 2) := by decide +kernel
theorem dX5_layPlans_333 : decode cX5_layPlans 333 = .ok (.iaload, 1) := by decide +kernel
theorem dX5_layPlans_334 : decode cX5_layPlans 334 = .ok (.iastore, 1) := by decide +kernel
theorem dX5_layPlans_335 : decode cX5_layPlans 335 = .ok (.iinc 8 1, 3) := by decide +kernel
theorem dX5_layPlans_338 : decode cX5_layPlans 338 = .ok (.goto (-160), 3) := by decide +kernel
theorem dX5_layPlans_341 : decode cX5_layPlans 341 = .ok (.iinc 3 1, 3) := by decide +kernel
theorem dX5_layPlans_344 : decode cX5_layPlans 344 = .ok (.goto (-249), 3) := by decide +kernel
theorem dX5_layPlans_347 : decode cX5_layPlans 347 = .ok (.iinc 2 (-1), 3) := by decide +kernel
theorem dX5_layPlans_350 : decode cX5_layPlans 350 = .ok (.goto (-268), 3) := by decide +kernel
theorem dX5_layPlans_353 : decode cX5_layPlans 353 = .ok (.return_, 1) := by decide +kernel
theorem dX5_plan_0 : decode cX5_plan 0 = .ok (.iload_n 1, 1) := by decide +kernel
theorem dX5_plan_1 : decode cX5_plan 1 = .ok (.iconst 0, 1) := by decide +kernel
theorem dX5_plan_2 : decode cX5_plan 2 = .ok (.iconst 2, 1) := by decide +kernel
theorem dX5_plan_3 : decode cX5_plan 3 = .ok (.invokestatic 87, 3) := by decide +kernel
theorem dX5_plan_6 : decode cX5_plan 6 = .ok (.ifCond .ne 6, 3) := by decide +kernel
theorem dX5_plan_9 : decode cX5_plan 9 = .ok (.bipush (-3), 2) := by decide +kernel
theorem dX5_plan_11 : decode cX5_plan 11 = .ok (.ireturn, 1) := by decide +kernel
theorem dX5_plan_12 : decode cX5_plan 12 = .ok (.aload_n 0, 1) := by decide +kernel
theorem dX5_plan_13 : decode cX5_plan 13 = .ok (.getfield 81, 3) := by decide +kernel
theorem dX5_plan_16 : decode cX5_plan 16 = .ok (.ifCond .ne 13, 3) := by decide +kernel
theorem dX5_plan_19 : decode cX5_plan 19 = .ok (.iload_n 1, 1) := by decide +kernel
theorem dX5_plan_20 : decode cX5_plan 20 = .ok (.ifCond .ne 7, 3) := by decide +kernel
theorem dX5_plan_23 : decode cX5_plan 23 = .ok (.iconst 0, 1) := by decide +kernel
theorem dX5_plan_24 : decode cX5_plan 24 = .ok (.goto 4, 3) := by decide +kernel
theorem dX5_plan_27 : decode cX5_plan 27 = .ok (.iconst (-1), 1) := by decide +kernel
theorem dX5_plan_28 : decode cX5_plan 28 = .ok (.ireturn, 1) := by decide +kernel
theorem dX5_plan_29 : decode cX5_plan 29 = .ok (.aload_n 0, 1) := by decide +kernel
theorem dX5_plan_30 : decode cX5_plan 30 = .ok (.invokevirtual 269, 3) := by decide +kernel
theorem dX5_plan_33 : decode cX5_plan 33 = .ok (.aload_n 0, 1) := by decide +kernel
theorem dX5_plan_34 : decode cX5_plan 34 = .ok (.getfield 32, 3) := by decide +kernel
theorem dX5_plan_37 : decode cX5_plan 37 = .ok (.bipush 10, 2) := by decide +kernel
theorem dX5_plan_39 : decode cX5_plan 39 = .ok (.iaload, 1) := by decide +kernel
theorem dX5_plan_40 : decode cX5_plan 40 = .ok (.istore_n 2, 1) := by decide +kernel
theorem dX5_plan_41 : decode cX5_plan 41 = .ok (.bipush 9, 2) := by decide +kernel
theorem dX5_plan_43 : decode cX5_plan 43 = .ok (.istore_n 3, 1) := by decide +kernel
theorem dX5_plan_44 : decode cX5_plan 44 = .ok (.iconst 0, 1) := by decide +kernel
theorem dX5_plan_45 : decode cX5_plan 45 = .ok (.istore 4, 2) := by decide +kernel
theorem dX5_plan_47 : decode cX5_plan 47 = .ok (.iload 4, 2) := by decide +kernel
theorem dX5_plan_49 : decode cX5_plan 49 = .ok (.iload_n 2, 1) := by decide +kernel
theorem dX5_plan_50 : decode cX5_plan 50 = .ok (.if_icmp .ge 33, 3) := by decide +kernel
theorem dX5_plan_53 : decode cX5_plan 53 = .ok (.aload_n 0, 1) := by decide +kernel
theorem dX5_plan_54 : decode cX5_plan 54 = .ok (.getfield 32, 3) := by decide +kernel
theorem dX5_plan_57 : decode cX5_plan 57 = .ok (.bipush 11, 2) := by decide +kernel
theorem dX5_plan_59 : decode cX5_plan 59 = .ok (.iaload, 1) := by decide +kernel
theorem dX5_plan_60 : decode cX5_plan 60 = .ok (.iload 4, 2) := by decide +kernel
theorem dX5_plan_62 : decode cX5_plan 62 = .ok (.invokestatic 177, 3) := by decide +kernel
theorem dX5_plan_65 : decode cX5_plan 65 = .ok (.ifCond .eq 10, 3) := by decide +kernel
theorem dX5_plan_68 : decode cX5_plan 68 = .ok (.iload_n 2, 1) := by decide +kernel
theorem dX5_plan_69 : decode cX5_plan 69 = .ok (.iload 4, 2) := by decide +kernel
theorem dX5_plan_71 : decode cX5_plan 71 = .ok (.isub, 1) := by decide +kernel
theorem dX5_plan_72 : decode cX5_plan 72 = .ok (.goto 4, 3) := by decide +kernel
theorem dX5_plan_75 : decode cX5_plan 75 = .ok (.iload_n 3, 1) := by decide +kernel
theorem dX5_plan_76 : decode cX5_plan 76 = .ok (.istore_n 3, 1) := by decide +kernel
theorem dX5_plan_77 : decode cX5_plan 77 = .ok (.iinc 4 1, 3) := by decide +kernel
theorem dX5_plan_80 : decode cX5_plan 80 = .ok (.goto (-33), 3) := by decide +kernel
theorem dX5_plan_83 : decode cX5_plan 83 = .ok (.iload_n 3, 1) := by decide +kernel
theorem dX5_plan_84 : decode cX5_plan 84 = .ok (.bipush 9, 2) := by decide +kernel
theorem dX5_plan_86 : decode cX5_plan 86 = .ok (.if_icmp .le 8, 3) := by decide +kernel
theorem dX5_plan_89 : decode cX5_plan 89 = .ok (.bipush 9, 2) := by decide +kernel
theorem dX5_plan_91 : decode cX5_plan 91 = .ok (.goto 4, 3) := by decide +kernel
theorem dX5_plan_94 : decode cX5_plan 94 = .ok (.iload_n 3, 1) := by decide +kernel
theorem dX5_plan_95 : decode cX5_plan 95 = .ok (.istore_n 3, 1) := by decide +kernel
theorem dX5_plan_96 : decode cX5_plan 96 = .ok (.iload_n 2, 1) := by decide +kernel
theorem dX5_plan_97 : decode cX5_plan 97 = .ok (.iload_n 3, 1) := by decide +kernel
theorem dX5_plan_98 : decode cX5_plan 98 = .ok (.iconst 0, 1) := by decide +kernel
theorem dX5_plan_99 : decode cX5_plan 99 = .ok (.aload_n 0, 1) := by decide +kernel
theorem dX5_plan_100 : decode cX5_plan 100 = .ok (.getfield 253, 3) := by decide +kernel
theorem dX5_plan_103 : decode cX5_plan 103 = .ok (.invokestatic 246, 3) := by decide +kernel
theorem dX5_plan_106 : decode cX5_plan 106 = .ok (.istore 4, 2) := by decide +kernel
theorem dX5_plan_108 : decode cX5_plan 108 = .ok (.aload_n 0, 1) := by decide +kernel
theorem dX5_plan_109 : decode cX5_plan 109 = .ok (.getfield 57, 3) := by decide +kernel
theorem dX5_plan_112 : decode cX5_plan 112 = .ok (.iload 4, 2) := by decide +kernel
theorem dX5_plan_114 : decode cX5_plan 114 = .ok (.iaload, 1) := by decide +kernel
theorem dX5_plan_115 : decode cX5_plan 115 = .ok (.sipush 9999, 3) := by decide +kernel
theorem dX5_plan_118 : decode cX5_plan 118 = .ok (.if_icmp .ne 5, 3) := by decide +kernel
theorem dX5_plan_121 : decode cX5_plan 121 = .ok (.iconst (-1), 1) := by decide +kernel
theorem dX5_plan_122 : decode cX5_plan 122 = .ok (.ireturn, 1) := by decide +kernel
theorem dX5_plan_123 : decode cX5_plan 123 = .ok (.iload_n 1, 1) := by decide +kernel
theorem dX5_plan_124 : decode cX5_plan 124 = .ok (.iconst 2, 1) := by decide +kernel
theorem dX5_plan_125 : decode cX5_plan 125 = .ok (.if_icmp .ge 25, 3) := by decide +kernel
theorem dX5_plan_128 : decode cX5_plan 128 = .ok (.iload_n 1, 1) := by decide +kernel
theorem dX5_plan_129 : decode cX5_plan 129 = .ok (.ifCond .ne 13, 3) := by decide +kernel
theorem dX5_plan_132 : decode cX5_plan 132 = .ok (.aload_n 0, 1) := by decide +kernel
theorem dX5_plan_133 : decode cX5_plan 133 = .ok (.getfield 57, 3) := by decide +kernel
theorem dX5_plan_136 : decode cX5_plan 136 = .ok (.iload 4, 2) := by decide +kernel
theorem dX5_plan_138 : decode cX5_plan 138 = .ok (.iaload, 1) := by decide +kernel
theorem dX5_plan_139 : decode cX5_plan 139 = .ok (.goto 10, 3) := by decide +kernel
theorem dX5_plan_142 : decode cX5_plan 142 = .ok (.aload_n 0, 1) := by decide +kernel
theorem dX5_plan_143 : decode cX5_plan 143 = .ok (.getfield 60, 3) := by decide +kernel
theorem dX5_plan_146 : decode cX5_plan 146 = .ok (.iload 4, 2) := by decide +kernel
theorem dX5_plan_148 : decode cX5_plan 148 = .ok (.iaload, 1) := by decide +kernel
theorem dX5_plan_149 : decode cX5_plan 149 = .ok (.ireturn, 1) := by decide +kernel
theorem dX5_plan_150 : decode cX5_plan 150 = .ok (.sipush 9999, 3) := by decide +kernel
theorem dX5_plan_153 : decode cX5_plan 153 = .ok (.istore 5, 2) := by decide +kernel
theorem dX5_plan_155 : decode cX5_plan 155 = .ok (.iconst 0, 1) := by decide +kernel
theorem dX5_plan_156 : decode cX5_plan 156 = .ok (.istore 6, 2) := by decide +kernel
theorem dX5_plan_158 : decode cX5_plan 158 = .ok (.iload 6, 2) := by decide +kernel
theorem dX5_plan_160 : decode cX5_plan 160 = .ok (.bipush 10, 2) := by decide +kernel
theorem dX5_plan_162 : decode cX5_plan 162 = .ok (.if_icmp .ge 149, 3) := by decide +kernel
theorem dX5_plan_165 : decode cX5_plan 165 = .ok (.iload 6, 2) := by decide +kernel
theorem dX5_plan_167 : decode cX5_plan 167 = .ok (.invokestatic 256, 3) := by decide +kernel
theorem dX5_plan_170 : decode cX5_plan 170 = .ok (.istore 7, 2) := by decide +kernel
theorem dX5_plan_172 : decode cX5_plan 172 = .ok (.aload_n 0, 1) := by decide +kernel
theorem dX5_plan_173 : decode cX5_plan 173 = .ok (.iload 7, 2) := by decide +kernel
theorem dX5_plan_175 : decode cX5_plan 175 = .ok (.iload_n 3, 1) := by decide +kernel
theorem dX5_plan_176 : decode cX5_plan 176 = .ok (.iconst 0, 1) := by decide +kernel
theorem dX5_plan_177 : decode cX5_plan 177 = .ok (.invokevirtual 259, 3) := by decide +kernel
theorem dX5_plan_180 : decode cX5_plan 180 = .ok (.ifCond .eq 125, 3) := by decide +kernel
theorem dX5_plan_183 : decode cX5_plan 183 = .ok (.aload_n 0, 1) := by decide +kernel
theorem dX5_plan_184 : decode cX5_plan 184 = .ok (.iload 7, 2) := by decide +kernel
theorem dX5_plan_186 : decode cX5_plan 186 = .ok (.iload_n 2, 1) := by decide +kernel
theorem dX5_plan_187 : decode cX5_plan 187 = .ok (.iload_n 3, 1) := by decide +kernel
theorem dX5_plan_188 : decode cX5_plan 188 = .ok (.iconst 0, 1) := by decide +kernel
theorem dX5_plan_189 : decode cX5_plan 189 = .ok (.aload_n 0, 1) := by decide +kernel
theorem dX5_plan_190 : decode cX5_plan 190 = .ok (.getfield 253, 3) := by decide +kernel
theorem dX5_plan_193 : decode cX5_plan 193 = .ok (.invokevirtual 262, 3) := by decide +kernel
theorem dX5_plan_196 : decode cX5_plan 196 = .ok (.istore 8, 2) := by decide +kernel
theorem dX5_plan_198 : decode cX5_plan 198 = .ok (.aload_n 0, 1) := by decide +kernel
theorem dX5_plan_199 : decode cX5_plan 199 = .ok (.getfield 57, 3) := by decide +kernel
theorem dX5_plan_202 : decode cX5_plan 202 = .ok (.iload 8, 2) := by decide +kernel
theorem dX5_plan_204 : decode cX5_plan 204 = .ok (.iaload, 1) := by decide +kernel
theorem dX5_plan_205 : decode cX5_plan 205 = .ok (.aload_n 0, 1) := by decide +kernel
theorem dX5_plan_206 : decode cX5_plan 206 = .ok (.iload 7, 2) := by decide +kernel
theorem dX5_plan_208 : decode cX5_plan 208 = .ok (.iload_n 2, 1) := by decide +kernel
theorem dX5_plan_209 : decode cX5_plan 209 = .ok (.iload_n 3, 1) := by decide +kernel
theorem dX5_plan_210 : decode cX5_plan 210 = .ok (.aload_n 0, 1) := by decide +kernel
theorem dX5_plan_211 : decode cX5_plan 211 = .ok (.getfield 253, 3) := by decide +kernel
theorem dX5_plan_214 : decode cX5_plan 214 = .ok (.invokevirtual 266, 3) := by decide +kernel
theorem dX5_plan_217 : decode cX5_plan 217 = .ok (.iadd, 1) := by decide +kernel
theorem dX5_plan_218 : decode cX5_plan 218 = .ok (.aload_n 0, 1) := by decide +kernel
theorem dX5_plan_219 : decode cX5_plan 219 = .ok (.getfield 57, 3) := by decide +kernel
theorem dX5_plan_222 : decode cX5_plan 222 = .ok (.iload 4, 2) := by decide +kernel
theorem dX5_plan_224 : decode cX5_plan 224 = .ok (.iaload, 1) := by decide +kernel
theorem dX5_plan_225 : decode cX5_plan 225 = .ok (.if_icmp .ne 24, 3) := by decide +kernel
theorem dX5_plan_228 : decode cX5_plan 228 = .ok (.aload_n 0, 1) := by decide +kernel
theorem dX5_plan_229 : decode cX5_plan 229 = .ok (.getfield 60, 3) := by decide +kernel
theorem dX5_plan_232 : decode cX5_plan 232 = .ok (.iload 8, 2) := by decide +kernel
theorem dX5_plan_234 : decode cX5_plan 234 = .ok (.iaload, 1) := by decide +kernel
theorem dX5_plan_235 : decode cX5_plan 235 = .ok (.aload_n 0, 1) := by decide +kernel
theorem dX5_plan_236 : decode cX5_plan 236 = .ok (.getfield 60, 3) := by decide +kernel
theorem dX5_plan_239 : decode cX5_plan 239 = .ok (.iload 4, 2) := by decide +kernel
theorem dX5_plan_241 : decode cX5_plan 241 = .ok (.iaload, 1) := by decide +kernel
theorem dX5_plan_242 : decode cX5_plan 242 = .ok (.if_icmp .ne 7, 3) := by decide +kernel
theorem dX5_plan_245 : decode cX5_plan 245 = .ok (.iconst 1, 1) := by decide +kernel
theorem dX5_plan_246 : decode cX5_plan 246 = .ok (.goto 4, 3) := by decide +kernel
theorem dX5_plan_249 : decode cX5_plan 249 = .ok (.iconst 0, 1) := by decide +kernel
theorem dX5_plan_250 : decode cX5_plan 250 = .ok (.istore 9, 2) := by decide +kernel
theorem dX5_plan_252 : decode cX5_plan 252 = .ok (.iload 7, 2) := by decide +kernel
theorem dX5_plan_254 : decode cX5_plan 254 = .ok (.iconst 3, 1) := by decide +kernel
theorem dX5_plan_255 : decode cX5_plan 255 = .ok (.if_icmp .ge 8, 3) := by decide +kernel
theorem dX5_plan_258 : decode cX5_plan 258 = .ok (.iload 7, 2) := by decide +kernel
theorem dX5_plan_260 : decode cX5_plan 260 = .ok (.goto 22, 3) := by decide +kernel
theorem dX5_plan_263 : decode cX5_plan 263 = .ok (.iload 7, 2) := by decide +kernel
theorem dX5_plan_265 : decode cX5_plan 265 = .ok (.bipush 10, 2) := by decide +kernel
theorem dX5_plan_267 : decode cX5_plan 267 = .ok (.idiv, 1) := by decide +kernel
theorem dX5_plan_268 : decode cX5_plan 268 = .ok (.bipush 10, 2) := by decide +kernel
theorem dX5_plan_270 : decode cX5_plan 270 = .ok (.imul, 1) := by decide +kernel
theorem dX5_plan_271 : decode cX5_plan 271 = .ok (.aload_n 0, 1) := by decide +kernel
theorem dX5_plan_272 : decode cX5_plan 272 = .ok (.getfield 51, 3) := by decide +kernel
theorem dX5_plan_275 : decode cX5_plan 275 = .ok (.iload 7, 2) := by decide +kernel
theorem dX5_plan_277 : decode cX5_plan 277 = .ok (.bipush 10, 2) := by decide +kernel
theorem dX5_plan_279 : decode cX5_plan 279 = .ok (.irem, 1) := by decide +kernel
theorem dX5_plan_280 : decode cX5_plan 280 = .ok (.iaload, 1) := by decide +kernel
theorem dX5_plan_281 : decode cX5_plan 281 = .ok (.iadd, 1) := by decide +kernel
theorem dX5_plan_282 : decode cX5_plan 282 = .ok (.istore 10, 2) := by decide +kernel
theorem dX5_plan_284 : decode cX5_plan 284 = .ok (.iload 9, 2) := by decide +kernel
theorem dX5_plan_286 : decode cX5_plan 286 = .ok (.ifCond .eq 15, 3) := by decide +kernel
theorem dX5_plan_289 : decode cX5_plan 289 = .ok (.iload 10, 2) := by decide +kernel
theorem dX5_plan_291 : decode cX5_plan 291 = .ok (.iload 5, 2) := by decide +kernel
theorem dX5_plan_293 : decode cX5_plan 293 = .ok (.if_icmp .ge 8, 3) := by decide +kernel
theorem dX5_plan_296 : decode cX5_plan 296 = .ok (.iload 10, 2) := by decide +kernel
theorem dX5_plan_298 : decode cX5_plan 298 = .ok (.goto 5, 3) := by decide +kernel
theorem dX5_plan_301 : decode cX5_plan 301 = .ok (.iload 5, 2) := by decide +kernel
theorem dX5_plan_303 : decode cX5_plan 303 = .ok (.istore 5, 2) := by decide +kernel
theorem dX5_plan_305 : decode cX5_plan 305 = .ok (.iinc 6 1, 3) := by decide +kernel
theorem dX5_plan_308 : decode cX5_plan 308 = .ok (.goto (-150), 3) := by decide +kernel
theorem dX5_plan_311 : decode cX5_plan 311 = .ok (.iload 5, 2) := by decide +kernel
theorem dX5_plan_313 : decode cX5_plan 313 = .ok (.ireturn, 1) := by decide +kernel
theorem dX5_pricesIn_0 : decode cX5_pricesIn 0 = .ok (.aload_n 0, 1) := by decide +kernel
theorem dX5_pricesIn_1 : decode cX5_pricesIn 1 = .ok (.getfield 32, 3) := by decide +kernel
theorem dX5_pricesIn_4 : decode cX5_pricesIn 4 = .ok (.iconst 0, 1) := by decide +kernel
theorem dX5_pricesIn_5 : decode cX5_pricesIn 5 = .ok (.aload_n 0, 1) := by decide +kernel
theorem dX5_pricesIn_6 : decode cX5_pricesIn 6 = .ok (.getfield 35, 3) := by decide +kernel
theorem dX5_pricesIn_9 : decode cX5_pricesIn 9 = .ok (.iconst 0, 1) := by decide +kernel
theorem dX5_pricesIn_10 : decode cX5_pricesIn 10 = .ok (.invokestatic 218, 3) := by decide +kernel
theorem dX5_pricesIn_13 : decode cX5_pricesIn 13 = .ok (.aload_n 0, 1) := by decide +kernel
theorem dX5_pricesIn_14 : decode cX5_pricesIn 14 = .ok (.getfield 35, 3) := by decide +kernel
theorem dX5_pricesIn_17 : decode cX5_pricesIn 17 = .ok (.bipush 10, 2) := by decide +kernel
theorem dX5_pricesIn_19 : decode cX5_pricesIn 19 = .ok (.iaload, 1) := by decide +kernel
theorem dX5_pricesIn_20 : decode cX5_pricesIn 20 = .ok (.iload_n 1, 1) := by decide +kernel
theorem dX5_pricesIn_21 : decode cX5_pricesIn 21 = .ok (.if_icmp .ge 14, 3) := by decide +kernel
theorem dX5_pricesIn_24 : decode cX5_pricesIn 24 = .ok (.aload_n 0, 1) := by decide +kernel
theorem dX5_pricesIn_25 : decode cX5_pricesIn 25 = .ok (.aload_n 0, 1) := by decide +kernel
theorem dX5_pricesIn_26 : decode cX5_pricesIn 26 = .ok (.getfield 35, 3) := by decide +kernel
theorem dX5_pricesIn_29 : decode cX5_pricesIn 29 = .ok (.invokevirtual 228, 3) := by decide +kernel
theorem dX5_pricesIn_32 : decode cX5_pricesIn 32 = .ok (.goto (-19), 3) := by decide +kernel
theorem dX5_pricesIn_35 : decode cX5_pricesIn 35 = .ok (.aload_n 0, 1) := by decide +kernel
theorem dX5_pricesIn_36 : decode cX5_pricesIn 36 = .ok (.aload_n 0, 1) := by decide +kernel
theorem dX5_pricesIn_37 : decode cX5_pricesIn 37 = .ok (.getfield 35, 3) := by decide +kernel
theorem dX5_pricesIn_40 : decode cX5_pricesIn 40 = .ok (.invokevirtual 239, 3) := by decide +kernel
theorem dX5_pricesIn_43 : decode cX5_pricesIn 43 = .ok (.ireturn, 1) := by decide +kernel
theorem dX5_price_0 : decode cX5_price 0 = .ok (.iload_n 1, 1) := by decide +kernel
theorem dX5_price_1 : decode cX5_price 1 = .ok (.aload_n 0, 1) := by decide +kernel
theorem dX5_price_2 : decode cX5_price 2 = .ok (.getfield 32, 3) := by decide +kernel
theorem dX5_price_5 : decode cX5_price 5 = .ok (.bipush 10, 2) := by decide +kernel
theorem dX5_price_7 : decode cX5_price 7 = .ok (.iaload, 1) := by decide +kernel
theorem dX5_price_8 : decode cX5_price 8 = .ok (.bipush 24, 2) := by decide +kernel
theorem dX5_price_10 : decode cX5_price 10 = .ok (.invokestatic 87, 3) := by decide +kernel
theorem dX5_price_13 : decode cX5_price 13 = .ok (.ifCond .eq 11, 3) := by decide +kernel
theorem dX5_price_16 : decode cX5_price 16 = .ok (.aload_n 0, 1) := by decide +kernel
theorem dX5_price_17 : decode cX5_price 17 = .ok (.iload_n 1, 1) := by decide +kernel
theorem dX5_price_18 : decode cX5_price 18 = .ok (.invokevirtual 272, 3) := by decide +kernel
theorem dX5_price_21 : decode cX5_price 21 = .ok (.goto 5, 3) := by decide +kernel
theorem dX5_price_24 : decode cX5_price 24 = .ok (.bipush (-3), 2) := by decide +kernel
theorem dX5_price_26 : decode cX5_price 26 = .ok (.ireturn, 1) := by decide +kernel
theorem dX5_sell_0 : decode cX5_sell 0 = .ok (.iload_n 1, 1) := by decide +kernel
theorem dX5_sell_1 : decode cX5_sell 1 = .ok (.iconst 0, 1) := by decide +kernel
theorem dX5_sell_2 : decode cX5_sell 2 = .ok (.iconst 1, 1) := by decide +kernel
theorem dX5_sell_3 : decode cX5_sell 3 = .ok (.invokestatic 87, 3) := by decide +kernel
theorem dX5_sell_6 : decode cX5_sell 6 = .ok (.ifCond .ne 6, 3) := by decide +kernel
theorem dX5_sell_9 : decode cX5_sell 9 = .ok (.bipush (-3), 2) := by decide +kernel
theorem dX5_sell_11 : decode cX5_sell 11 = .ok (.ireturn, 1) := by decide +kernel
theorem dX5_sell_12 : decode cX5_sell 12 = .ok (.aload_n 0, 1) := by decide +kernel
theorem dX5_sell_13 : decode cX5_sell 13 = .ok (.getfield 32, 3) := by decide +kernel
theorem dX5_sell_16 : decode cX5_sell 16 = .ok (.bipush 10, 2) := by decide +kernel
theorem dX5_sell_18 : decode cX5_sell 18 = .ok (.iaload, 1) := by decide +kernel
theorem dX5_sell_19 : decode cX5_sell 19 = .ok (.istore_n 2, 1) := by decide +kernel
theorem dX5_sell_20 : decode cX5_sell 20 = .ok (.aload_n 0, 1) := by decide +kernel
theorem dX5_sell_21 : decode cX5_sell 21 = .ok (.getfield 32, 3) := by decide +kernel
theorem dX5_sell_24 : decode cX5_sell 24 = .ok (.bipush 10, 2) := by decide +kernel
theorem dX5_sell_26 : decode cX5_sell 26 = .ok (.iaload, 1) := by decide +kernel
theorem dX5_sell_27 : decode cX5_sell 27 = .ok (.istore_n 3, 1) := by decide +kernel
theorem dX5_sell_28 : decode cX5_sell 28 = .ok (.iload_n 3, 1) := by decide +kernel
theorem dX5_sell_29 : decode cX5_sell 29 = .ok (.bipush 24, 2) := by decide +kernel
theorem dX5_sell_31 : decode cX5_sell 31 = .ok (.if_icmp .gt 28, 3) := by decide +kernel
theorem dX5_sell_34 : decode cX5_sell 34 = .ok (.aload_n 0, 1) := by decide +kernel
theorem dX5_sell_35 : decode cX5_sell 35 = .ok (.iload_n 3, 1) := by decide +kernel
theorem dX5_sell_36 : decode cX5_sell 36 = .ok (.invokevirtual 272, 3) := by decide +kernel
theorem dX5_sell_39 : decode cX5_sell 39 = .ok (.aload_n 0, 1) := by decide +kernel
theorem dX5_sell_40 : decode cX5_sell 40 = .ok (.iload_n 2, 1) := by decide +kernel
theorem dX5_sell_41 : decode cX5_sell 41 = .ok (.invokevirtual 272, 3) := by decide +kernel
theorem dX5_sell_44 : decode cX5_sell 44 = .ok (.if_icmp .le 7, 3) := by decide +kernel
theorem dX5_sell_47 : decode cX5_sell 47 = .ok (.iload_n 3, 1) := by decide +kernel
theorem dX5_sell_48 : decode cX5_sell 48 = .ok (.goto 4, 3) := by decide +kernel
theorem dX5_sell_51 : decode cX5_sell 51 = .ok (.iload_n 2, 1) := by decide +kernel
theorem dX5_sell_52 : decode cX5_sell 52 = .ok (.istore_n 2, 1) := by decide +kernel
theorem dX5_sell_53 : decode cX5_sell 53 = .ok (.iinc 3 1, 3) := by decide +kernel
theorem dX5_sell_56 : decode cX5_sell 56 = .ok (.goto (-28), 3) := by decide +kernel
theorem dX5_sell_59 : decode cX5_sell 59 = .ok (.iload_n 1, 1) := by decide +kernel
theorem dX5_sell_60 : decode cX5_sell 60 = .ok (.ifCond .ne 7, 3) := by decide +kernel
theorem dX5_sell_63 : decode cX5_sell 63 = .ok (.iload_n 2, 1) := by decide +kernel
theorem dX5_sell_64 : decode cX5_sell 64 = .ok (.goto 8, 3) := by decide +kernel
theorem dX5_sell_67 : decode cX5_sell 67 = .ok (.aload_n 0, 1) := by decide +kernel
theorem dX5_sell_68 : decode cX5_sell 68 = .ok (.iload_n 2, 1) := by decide +kernel
theorem dX5_sell_69 : decode cX5_sell 69 = .ok (.invokevirtual 272, 3) := by decide +kernel
theorem dX5_sell_72 : decode cX5_sell 72 = .ok (.ireturn, 1) := by decide +kernel
theorem dX5_lootOf_0 : decode cX5_lootOf 0 = .ok (.iconst 3, 1) := by decide +kernel
theorem dX5_lootOf_1 : decode cX5_lootOf 1 = .ok (.aload_n 0, 1) := by decide +kernel
theorem dX5_lootOf_2 : decode cX5_lootOf 2 = .ok (.getfield 7, 3) := by decide +kernel
theorem dX5_lootOf_5 : decode cX5_lootOf 5 = .ok (.iconst 4, 1) := by decide +kernel
theorem dX5_lootOf_6 : decode cX5_lootOf 6 = .ok (.iload_n 1, 1) := by decide +kernel
theorem dX5_lootOf_7 : decode cX5_lootOf 7 = .ok (.imul, 1) := by decide +kernel
theorem dX5_lootOf_8 : decode cX5_lootOf 8 = .ok (.iconst 1, 1) := by decide +kernel
theorem dX5_lootOf_9 : decode cX5_lootOf 9 = .ok (.iadd, 1) := by decide +kernel
theorem dX5_lootOf_10 : decode cX5_lootOf 10 = .ok (.iaload, 1) := by decide +kernel
theorem dX5_lootOf_11 : decode cX5_lootOf 11 = .ok (.imul, 1) := by decide +kernel
theorem dX5_lootOf_12 : decode cX5_lootOf 12 = .ok (.aload_n 0, 1) := by decide +kernel
theorem dX5_lootOf_13 : decode cX5_lootOf 13 = .ok (.aload_n 0, 1) := by decide +kernel
theorem dX5_lootOf_14 : decode cX5_lootOf 14 = .ok (.getfield 32, 3) := by decide +kernel
theorem dX5_lootOf_17 : decode cX5_lootOf 17 = .ok (.iload_n 1, 1) := by decide +kernel
theorem dX5_lootOf_18 : decode cX5_lootOf 18 = .ok (.invokevirtual 193, 3) := by decide +kernel
theorem dX5_lootOf_21 : decode cX5_lootOf 21 = .ok (.isub, 1) := by decide +kernel
theorem dX5_lootOf_22 : decode cX5_lootOf 22 = .ok (.istore_n 3, 1) := by decide +kernel
theorem dX5_lootOf_23 : decode cX5_lootOf 23 = .ok (.aload_n 0, 1) := by decide +kernel
theorem dX5_lootOf_24 : decode cX5_lootOf 24 = .ok (.iload_n 1, 1) := by decide +kernel
theorem dX5_lootOf_25 : decode cX5_lootOf 25 = .ok (.invokevirtual 181, 3) := by decide +kernel
theorem dX5_lootOf_28 : decode cX5_lootOf 28 = .ok (.iload_n 2, 1) := by decide +kernel
theorem dX5_lootOf_29 : decode cX5_lootOf 29 = .ok (.if_icmp .eq 21, 3) := by decide +kernel
theorem dX5_lootOf_32 : decode cX5_lootOf 32 = .ok (.aload_n 0, 1) := by decide +kernel
theorem dX5_lootOf_33 : decode cX5_lootOf 33 = .ok (.getfield 32, 3) := by decide +kernel
theorem dX5_lootOf_36 : decode cX5_lootOf 36 = .ok (.bipush 8, 2) := by decide +kernel
theorem dX5_lootOf_38 : decode cX5_lootOf 38 = .ok (.iaload, 1) := by decide +kernel
theorem dX5_lootOf_39 : decode cX5_lootOf 39 = .ok (.iload_n 1, 1) := by decide +kernel
theorem dX5_lootOf_40 : decode cX5_lootOf 40 = .ok (.invokestatic 177, 3) := by decide +kernel
theorem dX5_lootOf_43 : decode cX5_lootOf 43 = .ok (.ifCond .ne 7, 3) := by decide +kernel
theorem dX5_lootOf_46 : decode cX5_lootOf 46 = .ok (.iload_n 3, 1) := by decide +kernel
theorem dX5_lootOf_47 : decode cX5_lootOf 47 = .ok (.ifCond .ge 7, 3) := by decide +kernel
theorem dX5_lootOf_50 : decode cX5_lootOf 50 = .ok (.iconst 0, 1) := by decide +kernel
theorem dX5_lootOf_51 : decode cX5_lootOf 51 = .ok (.goto 4, 3) := by decide +kernel
theorem dX5_lootOf_54 : decode cX5_lootOf 54 = .ok (.iload_n 3, 1) := by decide +kernel
theorem dX5_lootOf_55 : decode cX5_lootOf 55 = .ok (.ireturn, 1) := by decide +kernel
theorem dX5_thief_0 : decode cX5_thief 0 = .ok (.iload_n 1, 1) := by decide +kernel
theorem dX5_thief_1 : decode cX5_thief 1 = .ok (.iconst 0, 1) := by decide +kernel
theorem dX5_thief_2 : decode cX5_thief 2 = .ok (.iconst 2, 1) := by decide +kernel
theorem dX5_thief_3 : decode cX5_thief 3 = .ok (.invokestatic 87, 3) := by decide +kernel
theorem dX5_thief_6 : decode cX5_thief 6 = .ok (.ifCond .ne 6, 3) := by decide +kernel
theorem dX5_thief_9 : decode cX5_thief 9 = .ok (.bipush (-3), 2) := by decide +kernel
theorem dX5_thief_11 : decode cX5_thief 11 = .ok (.ireturn, 1) := by decide +kernel
theorem dX5_thief_12 : decode cX5_thief 12 = .ok (.iconst 0, 1) := by decide +kernel
theorem dX5_thief_13 : decode cX5_thief 13 = .ok (.istore_n 2, 1) := by decide +kernel
theorem dX5_thief_14 : decode cX5_thief 14 = .ok (.iconst (-1), 1) := by decide +kernel
theorem dX5_thief_15 : decode cX5_thief 15 = .ok (.istore_n 3, 1) := by decide +kernel
theorem dX5_thief_16 : decode cX5_thief 16 = .ok (.iconst (-1), 1) := by decide +kernel
theorem dX5_thief_17 : decode cX5_thief 17 = .ok (.istore 4, 2) := by decide +kernel
theorem dX5_thief_19 : decode cX5_thief 19 = .ok (.iconst 0, 1) := by decide +kernel
theorem dX5_thief_20 : decode cX5_thief 20 = .ok (.istore 5, 2) := by decide +kernel
theorem dX5_thief_22 : decode cX5_thief 22 = .ok (.iload 5, 2) := by decide +kernel
theorem dX5_thief_24 : decode cX5_thief 24 = .ok (.aload_n 0, 1) := by decide +kernel
theorem dX5_thief_25 : decode cX5_thief 25 = .ok (.getfield 72, 3) := by decide +kernel
theorem dX5_thief_28 : decode cX5_thief 28 = .ok (.if_icmp .ge 154, 3) := by decide +kernel
theorem dX5_thief_31 : decode cX5_thief 31 = .ok (.iconst 0, 1) := by decide +kernel
theorem dX5_thief_32 : decode cX5_thief 32 = .ok (.istore 6, 2) := by decide +kernel
theorem dX5_thief_34 : decode cX5_thief 34 = .ok (.iload 6, 2) := by decide +kernel
theorem dX5_thief_36 : decode cX5_thief 36 = .ok (.iconst 3, 1) := by decide +kernel
theorem dX5_thief_37 : decode cX5_thief 37 = .ok (.if_icmp .ge 139, 3) := by decide +kernel
theorem dX5_thief_40 : decode cX5_thief 40 = .ok (.iconst 1, 1) := by decide +kernel
theorem dX5_thief_41 : decode cX5_thief 41 = .ok (.istore 7, 2) := by decide +kernel
theorem dX5_thief_43 : decode cX5_thief 43 = .ok (.iconst 0, 1) := by decide +kernel
theorem dX5_thief_44 : decode cX5_thief 44 = .ok (.istore 8, 2) := by decide +kernel
theorem dX5_thief_46 : decode cX5_thief 46 = .ok (.iload 8, 2) := by decide +kernel
theorem dX5_thief_48 : decode cX5_thief 48 = .ok (.aload_n 0, 1) := by decide +kernel
theorem dX5_thief_49 : decode cX5_thief 49 = .ok (.getfield 72, 3) := by decide +kernel
theorem dX5_thief_52 : decode cX5_thief 52 = .ok (.if_icmp .ge 40, 3) := by decide +kernel
theorem dX5_thief_55 : decode cX5_thief 55 = .ok (.iload 7, 2) := by decide +kernel
theorem dX5_thief_57 : decode cX5_thief 57 = .ok (.ifCond .eq 26, 3) := by decide +kernel
theorem dX5_thief_60 : decode cX5_thief 60 = .ok (.aload_n 0, 1) := by decide +kernel
theorem dX5_thief_61 : decode cX5_thief 61 = .ok (.iload 8, 2) := by decide +kernel
theorem dX5_thief_63 : decode cX5_thief 63 = .ok (.iload 6, 2) := by decide +kernel
theorem dX5_thief_65 : decode cX5_thief 65 = .ok (.invokevirtual 275, 3) := by decide +kernel
theorem dX5_thief_68 : decode cX5_thief 68 = .ok (.aload_n 0, 1) := by decide +kernel
theorem dX5_thief_69 : decode cX5_thief 69 = .ok (.iload 5, 2) := by decide +kernel
theorem dX5_thief_71 : decode cX5_thief 71 = .ok (.iload 6, 2) := by decide +kernel
theorem dX5_thief_73 : decode cX5_thief 73 = .ok (.invokevirtual 275, 3) := by decide +kernel
theorem dX5_thief_76 : decode cX5_thief 76 = .ok (.if_icmp .gt 7, 3) := by decide +kernel
theorem dX5_thief_79 : decode cX5_thief 79 = .ok (.iconst 1, 1) := by decide +kernel
theorem dX5_thief_80 : decode cX5_thief 80 = .ok (.goto 4, 3) := by decide +kernel
theorem dX5_thief_83 : decode cX5_thief 83 = .ok (.iconst 0, 1) := by decide +kernel
theorem dX5_thief_84 : decode cX5_thief 84 = .ok (.istore 7, 2) := by decide +kernel
theorem dX5_thief_86 : decode cX5_thief 86 = .ok (.iinc 8 1, 3) := by decide +kernel
theorem dX5_thief_89 : decode cX5_thief 89 = .ok (.goto (-43), 3) := by decide +kernel
theorem dX5_thief_92 : decode cX5_thief 92 = .ok (.iconst 0, 1) := by decide +kernel
theorem dX5_thief_93 : decode cX5_thief 93 = .ok (.istore 8, 2) := by decide +kernel
theorem dX5_thief_95 : decode cX5_thief 95 = .ok (.iload 8, 2) := by decide +kernel
theorem dX5_thief_97 : decode cX5_thief 97 = .ok (.iconst 3, 1) := by decide +kernel
theorem dX5_thief_98 : decode cX5_thief 98 = .ok (.if_icmp .ge 40, 3) := by decide +kernel
theorem dX5_thief_101 : decode cX5_thief 101 = .ok (.iload 7, 2) := by decide +kernel
theorem dX5_thief_103 : decode cX5_thief 103 = .ok (.ifCond .eq 26, 3) := by decide +kernel
theorem dX5_thief_106 : decode cX5_thief 106 = .ok (.aload_n 0, 1) := by decide +kernel
theorem dX5_thief_107 : decode cX5_thief 107 = .ok (.iload 5, 2) := by decide +kernel
theorem dX5_thief_109 : decode cX5_thief 109 = .ok (.iload 8, 2) := by decide +kernel
theorem dX5_thief_111 : decode cX5_thief 111 = .ok (.invokevirtual 275, 3) := by decide +kernel
theorem dX5_thief_114 : decode cX5_thief 114 = .ok (.aload_n 0, 1) := by decide +kernel
theorem dX5_thief_115 : decode cX5_thief 115 = .ok (.iload 5, 2) := by decide +kernel
theorem dX5_thief_117 : decode cX5_thief 117 = .ok (.iload 6, 2) := by decide +kernel
theorem dX5_thief_119 : decode cX5_thief 119 = .ok (.invokevirtual 275, 3) := by decide +kernel
theorem dX5_thief_122 : decode cX5_thief 122 = .ok (.if_icmp .lt 7, 3) := by decide +kernel
theorem dX5_thief_125 : decode cX5_thief 125 = .ok (.iconst 1, 1) := by decide +kernel
theorem dX5_thief_126 : decode cX5_thief 126 = .ok (.goto 4, 3) := by decide +kernel
theorem dX5_thief_129 : decode cX5_thief 129 = .ok (.iconst 0, 1) := by decide +kernel
theorem dX5_thief_130 : decode cX5_thief 130 = .ok (.istore 7, 2) := by decide +kernel
theorem dX5_thief_132 : decode cX5_thief 132 = .ok (.iinc 8 1, 3) := by decide +kernel
theorem dX5_thief_135 : decode cX5_thief 135 = .ok (.goto (-40), 3) := by decide +kernel
theorem dX5_thief_138 : decode cX5_thief 138 = .ok (.iload 7, 2) := by decide +kernel
theorem dX5_thief_140 : decode cX5_thief 140 = .ok (.ifCond .eq 30, 3) := by decide +kernel
theorem dX5_thief_143 : decode cX5_thief 143 = .ok (.iload_n 2, 1) := by decide +kernel
theorem dX5_thief_144 : decode cX5_thief 144 = .ok (.ifCond .ne 8, 3) := by decide +kernel
theorem dX5_thief_147 : decode cX5_thief 147 = .ok (.iload 5, 2) := by decide +kernel
theorem dX5_thief_149 : decode cX5_thief 149 = .ok (.goto 4, 3) := by decide +kernel
theorem dX5_thief_152 : decode cX5_thief 152 = .ok (.iload_n 3, 1) := by decide +kernel
theorem dX5_thief_153 : decode cX5_thief 153 = .ok (.istore_n 3, 1) := by decide +kernel
theorem dX5_thief_154 : decode cX5_thief 154 = .ok (.iload_n 2, 1) := by decide +kernel
theorem dX5_thief_155 : decode cX5_thief 155 = .ok (.ifCond .ne 8, 3) := by decide +kernel
theorem dX5_thief_158 : decode cX5_thief 158 = .ok (.iload 6, 2) := by decide +kernel
theorem dX5_thief_160 : decode cX5_thief 160 = .ok (.goto 5, 3) := by decide +kernel
theorem dX5_thief_163 : decode cX5_thief 163 = .ok (.iload 4, 2) := by decide +kernel
theorem dX5_thief_165 : decode cX5_thief 165 = .ok (.istore 4, 2) := by decide +kernel
theorem dX5_thief_167 : decode cX5_thief 167 = .ok (.iinc 2 1, 3) := by decide +kernel
theorem dX5_thief_170 : decode cX5_thief 170 = .ok (.iinc 6 1, 3) := by decide +kernel
theorem dX5_thief_173 : decode cX5_thief 173 = .ok (.goto (-139), 3) := by decide +kernel
theorem dX5_thief_176 : decode cX5_thief 176 = .ok (.iinc 5 1, 3) := by decide +kernel
theorem dX5_thief_179 : decode cX5_thief 179 = .ok (.goto (-157), 3) := by decide +kernel
theorem dX5_thief_182 : decode cX5_thief 182 = .ok (.iload_n 1, 1) := by decide +kernel
theorem dX5_thief_183 : decode cX5_thief 183 = .ok (.ifCond .ne 7, 3) := by decide +kernel
theorem dX5_thief_186 : decode cX5_thief 186 = .ok (.iload_n 2, 1) := by decide +kernel
theorem dX5_thief_187 : decode cX5_thief 187 = .ok (.goto 14, 3) := by decide +kernel
theorem dX5_thief_190 : decode cX5_thief 190 = .ok (.iload_n 1, 1) := by decide +kernel
theorem dX5_thief_191 : decode cX5_thief 191 = .ok (.iconst 1, 1) := by decide +kernel
theorem dX5_thief_192 : decode cX5_thief 192 = .ok (.if_icmp .ne 7, 3) := by decide +kernel
theorem dX5_thief_195 : decode cX5_thief 195 = .ok (.iload_n 3, 1) := by decide +kernel
theorem dX5_thief_196 : decode cX5_thief 196 = .ok (.goto 5, 3) := by decide +kernel
theorem dX5_thief_199 : decode cX5_thief 199 = .ok (.iload 4, 2) := by decide +kernel
theorem dX5_thief_201 : decode cX5_thief 201 = .ok (.ireturn, 1) := by decide +kernel
theorem dX5_look_0 : decode cX5_look 0 = .ok (.aload_n 0, 1) := by decide +kernel
theorem dX5_look_1 : decode cX5_look 1 = .ok (.iload_n 1, 1) := by decide +kernel
theorem dX5_look_2 : decode cX5_look 2 = .ok (.invokevirtual 196, 3) := by decide +kernel
theorem dX5_look_5 : decode cX5_look 5 = .ok (.ifCond .ne 6, 3) := by decide +kernel
theorem dX5_look_8 : decode cX5_look 8 = .ok (.bipush (-2), 2) := by decide +kernel
theorem dX5_look_10 : decode cX5_look 10 = .ok (.ireturn, 1) := by decide +kernel
theorem dX5_look_11 : decode cX5_look 11 = .ok (.iload_n 2, 1) := by decide +kernel
theorem dX5_look_12 : decode cX5_look 12 = .ok (.iconst 0, 1) := by decide +kernel
theorem dX5_look_13 : decode cX5_look 13 = .ok (.aload_n 0, 1) := by decide +kernel
theorem dX5_look_14 : decode cX5_look 14 = .ok (.getfield 32, 3) := by decide +kernel
theorem dX5_look_17 : decode cX5_look 17 = .ok (.bipush 10, 2) := by decide +kernel
theorem dX5_look_19 : decode cX5_look 19 = .ok (.iaload, 1) := by decide +kernel
theorem dX5_look_20 : decode cX5_look 20 = .ok (.iconst 1, 1) := by decide +kernel
theorem dX5_look_21 : decode cX5_look 21 = .ok (.isub, 1) := by decide +kernel
theorem dX5_look_22 : decode cX5_look 22 = .ok (.invokestatic 87, 3) := by decide +kernel
theorem dX5_look_25 : decode cX5_look 25 = .ok (.ifCond .eq 12, 3) := by decide +kernel
theorem dX5_look_28 : decode cX5_look 28 = .ok (.iload_n 3, 1) := by decide +kernel
theorem dX5_look_29 : decode cX5_look 29 = .ok (.iconst 0, 1) := by decide +kernel
theorem dX5_look_30 : decode cX5_look 30 = .ok (.iconst 1, 1) := by decide +kernel
theorem dX5_look_31 : decode cX5_look 31 = .ok (.invokestatic 87, 3) := by decide +kernel
theorem dX5_look_34 : decode cX5_look 34 = .ok (.ifCond .ne 6, 3) := by decide +kernel
theorem dX5_look_37 : decode cX5_look 37 = .ok (.bipush (-3), 2) := by decide +kernel
theorem dX5_look_39 : decode cX5_look 39 = .ok (.ireturn, 1) := by decide +kernel
theorem dX5_look_40 : decode cX5_look 40 = .ok (.aload_n 0, 1) := by decide +kernel
theorem dX5_look_41 : decode cX5_look 41 = .ok (.getfield 84, 3) := by decide +kernel
theorem dX5_look_44 : decode cX5_look 44 = .ok (.bipush 6, 2) := by decide +kernel
theorem dX5_look_46 : decode cX5_look 46 = .ok (.if_icmp .ne 6, 3) := by decide +kernel
theorem dX5_look_49 : decode cX5_look 49 = .ok (.bipush (-5), 2) := by decide +kernel
theorem dX5_look_51 : decode cX5_look 51 = .ok (.ireturn, 1) := by decide +kernel
theorem dX5_look_52 : decode cX5_look 52 = .ok (.aload_n 0, 1) := by decide +kernel
theorem dX5_look_53 : decode cX5_look 53 = .ok (.getfield 54, 3) := by decide +kernel
theorem dX5_look_56 : decode cX5_look 56 = .ok (.iconst 3, 1) := by decide +kernel
theorem dX5_look_57 : decode cX5_look 57 = .ok (.aload_n 0, 1) := by decide +kernel
theorem dX5_look_58 : decode cX5_look 58 = .ok (.getfield 84, 3) := by decide +kernel
theorem dX5_look_61 : decode cX5_look 61 = .ok (.imul, 1) := by decide +kernel
theorem dX5_look_62 : decode cX5_look 62 = .ok (.iload_n 1, 1) := by decide +kernel
theorem dX5_look_63 : decode cX5_look 63 = .ok (.iastore, 1) := by decide +kernel
theorem dX5_look_64 : decode cX5_look 64 = .ok (.aload_n 0, 1) := by decide +kernel
theorem dX5_look_65 : decode cX5_look 65 = .ok (.getfield 54, 3) := by decide +kernel
theorem dX5_look_68 : decode cX5_look 68 = .ok (.iconst 3, 1) := by decide +kernel
theorem dX5_look_69 : decode cX5_look 69 = .ok (.aload_n 0, 1) := by decide +kernel
theorem dX5_look_70 : decode cX5_look 70 = .ok (.getfield 84, 3) := by decide +kernel
theorem dX5_look_73 : decode cX5_look 73 = .ok (.imul, 1) := by decide +kernel
theorem dX5_look_74 : decode cX5_look 74 = .ok (.iconst 1, 1) := by decide +kernel
theorem dX5_look_75 : decode cX5_look 75 = .ok (.iadd, 1) := by decide +kernel
theorem dX5_look_76 : decode cX5_look 76 = .ok (.iload_n 2, 1) := by decide +kernel
theorem dX5_look_77 : decode cX5_look 77 = .ok (.iastore, 1) := by decide +kernel
theorem dX5_look_78 : decode cX5_look 78 = .ok (.aload_n 0, 1) := by decide +kernel
theorem dX5_look_79 : decode cX5_look 79 = .ok (.getfield 54, 3) := by decide +kernel
theorem dX5_look_82 : decode cX5_look 82 = .ok (.iconst 3, 1) := by decide +kernel
theorem dX5_look_83 : decode cX5_look 83 = .ok (.aload_n 0, 1) := by decide +kernel
theorem dX5_look_84 : decode cX5_look 84 = .ok (.getfield 84, 3) := by decide +kernel
theorem dX5_look_87 : decode cX5_look 87 = .ok (.imul, 1) := by decide +kernel
theorem dX5_look_88 : decode cX5_look 88 = .ok (.iconst 2, 1) := by decide +kernel
theorem dX5_look_89 : decode cX5_look 89 = .ok (.iadd, 1) := by decide +kernel
theorem dX5_look_90 : decode cX5_look 90 = .ok (.iload_n 3, 1) := by decide +kernel
theorem dX5_look_91 : decode cX5_look 91 = .ok (.iastore, 1) := by decide +kernel
theorem dX5_look_92 : decode cX5_look 92 = .ok (.aload_n 0, 1) := by decide +kernel
theorem dX5_look_93 : decode cX5_look 93 = .ok (.dup, 1) := by decide +kernel
theorem dX5_look_94 : decode cX5_look 94 = .ok (.getfield 84, 3) := by decide +kernel
theorem dX5_look_97 : decode cX5_look 97 = .ok (.iconst 1, 1) := by decide +kernel
theorem dX5_look_98 : decode cX5_look 98 = .ok (.iadd, 1) := by decide +kernel
theorem dX5_look_99 : decode cX5_look 99 = .ok (.putfield 84, 3) := by decide +kernel
theorem dX5_look_102 : decode cX5_look 102 = .ok (.aload_n 0, 1) := by decide +kernel
theorem dX5_look_103 : decode cX5_look 103 = .ok (.getfield 84, 3) := by decide +kernel
theorem dX5_look_106 : decode cX5_look 106 = .ok (.ireturn, 1) := by decide +kernel
theorem dX5_forget_0 : decode cX5_forget 0 = .ok (.aload_n 0, 1) := by decide +kernel
theorem dX5_forget_1 : decode cX5_forget 1 = .ok (.getfield 84, 3) := by decide +kernel
theorem dX5_forget_4 : decode cX5_forget 4 = .ok (.istore_n 1, 1) := by decide +kernel
theorem dX5_forget_5 : decode cX5_forget 5 = .ok (.aload_n 0, 1) := by decide +kernel
theorem dX5_forget_6 : decode cX5_forget 6 = .ok (.iconst 0, 1) := by decide +kernel
theorem dX5_forget_7 : decode cX5_forget 7 = .ok (.putfield 84, 3) := by decide +kernel
theorem dX5_forget_10 : decode cX5_forget 10 = .ok (.iload_n 1, 1) := by decide +kernel
theorem dX5_forget_11 : decode cX5_forget 11 = .ok (.ireturn, 1) := by decide +kernel
theorem dX5_isGold_0 : decode cX5_isGold 0 = .ok (.iload_n 1, 1) := by decide +kernel
theorem dX5_isGold_1 : decode cX5_isGold 1 = .ok (.bipush 24, 2) := by decide +kernel
theorem dX5_isGold_3 : decode cX5_isGold 3 = .ok (.if_icmp .eq 8, 3) := by decide +kernel
theorem dX5_isGold_6 : decode cX5_isGold 6 = .ok (.iload_n 2, 1) := by decide +kernel
theorem dX5_isGold_7 : decode cX5_isGold 7 = .ok (.iload_n 1, 1) := by decide +kernel
theorem dX5_isGold_8 : decode cX5_isGold 8 = .ok (.if_icmp .ge 5, 3) := by decide +kernel
theorem dX5_isGold_11 : decode cX5_isGold 11 = .ok (.iconst 0, 1) := by decide +kernel
theorem dX5_isGold_12 : decode cX5_isGold 12 = .ok (.ireturn, 1) := by decide +kernel
theorem dX5_isGold_13 : decode cX5_isGold 13 = .ok (.aload_n 0, 1) := by decide +kernel
theorem dX5_isGold_14 : decode cX5_isGold 14 = .ok (.aload_n 0, 1) := by decide +kernel
theorem dX5_isGold_15 : decode cX5_isGold 15 = .ok (.getfield 32, 3) := by decide +kernel
theorem dX5_isGold_18 : decode cX5_isGold 18 = .ok (.bipush 11, 2) := by decide +kernel
theorem dX5_isGold_20 : decode cX5_isGold 20 = .ok (.iaload, 1) := by decide +kernel
theorem dX5_isGold_21 : decode cX5_isGold 21 = .ok (.iload_n 1, 1) := by decide +kernel
theorem dX5_isGold_22 : decode cX5_isGold 22 = .ok (.invokevirtual 214, 3) := by decide +kernel
theorem dX5_isGold_25 : decode cX5_isGold 25 = .ok (.istore_n 3, 1) := by decide +kernel
theorem dX5_isGold_26 : decode cX5_isGold 26 = .ok (.iload_n 3, 1) := by decide +kernel
theorem dX5_isGold_27 : decode cX5_isGold 27 = .ok (.iconst 2, 1) := by decide +kernel
theorem dX5_isGold_28 : decode cX5_isGold 28 = .ok (.if_icmp .eq 24, 3) := by decide +kernel
theorem dX5_isGold_31 : decode cX5_isGold 31 = .ok (.iload_n 3, 1) := by decide +kernel
theorem dX5_isGold_32 : decode cX5_isGold 32 = .ok (.iconst 1, 1) := by decide +kernel
theorem dX5_isGold_33 : decode cX5_isGold 33 = .ok (.if_icmp .ne 23, 3) := by decide +kernel
theorem dX5_isGold_36 : decode cX5_isGold 36 = .ok (.iload_n 1, 1) := by decide +kernel
theorem dX5_isGold_37 : decode cX5_isGold 37 = .ok (.aload_n 0, 1) := by decide +kernel
theorem dX5_isGold_38 : decode cX5_isGold 38 = .ok (.getfield 23, 3) := by decide +kernel
theorem dX5_isGold_41 : decode cX5_isGold 41 = .ok (.if_icmp .ge 11, 3) := by decide +kernel
theorem dX5_isGold_44 : decode cX5_isGold 44 = .ok (.iload_n 2, 1) := by decide +kernel
theorem dX5_isGold_45 : decode cX5_isGold 45 = .ok (.aload_n 0, 1) := by decide +kernel
theorem dX5_isGold_46 : decode cX5_isGold 46 = .ok (.getfield 23, 3) := by decide +kernel
theorem dX5_isGold_49 : decode cX5_isGold 49 = .ok (.if_icmp .ge 7, 3) := by decide +kernel
theorem dX5_isGold_52 : decode cX5_isGold 52 = .ok (.iconst 1, 1) := by decide +kernel
theorem dX5_isGold_53 : decode cX5_isGold 53 = .ok (.goto 4, 3) := by decide +kernel
theorem dX5_isGold_56 : decode cX5_isGold 56 = .ok (.iconst 0, 1) := by decide +kernel
theorem dX5_isGold_57 : decode cX5_isGold 57 = .ok (.ireturn, 1) := by decide +kernel
theorem dX5_fit_0 : decode cX5_fit 0 = .ok (.aload_n 0, 1) := by decide +kernel
theorem dX5_fit_1 : decode cX5_fit 1 = .ok (.iload_n 1, 1) := by decide +kernel
theorem dX5_fit_2 : decode cX5_fit 2 = .ok (.invokevirtual 196, 3) := by decide +kernel
theorem dX5_fit_5 : decode cX5_fit 5 = .ok (.ifCond .ne 6, 3) := by decide +kernel
theorem dX5_fit_8 : decode cX5_fit 8 = .ok (.bipush (-2), 2) := by decide +kernel
theorem dX5_fit_10 : decode cX5_fit 10 = .ok (.ireturn, 1) := by decide +kernel
theorem dX5_fit_11 : decode cX5_fit 11 = .ok (.iconst 0, 1) := by decide +kernel
theorem dX5_fit_12 : decode cX5_fit 12 = .ok (.istore_n 2, 1) := by decide +kernel
theorem dX5_fit_13 : decode cX5_fit 13 = .ok (.iconst 0, 1) := by decide +kernel
theorem dX5_fit_14 : decode cX5_fit 14 = .ok (.istore_n 3, 1) := by decide +kernel
theorem dX5_fit_15 : decode cX5_fit 15 = .ok (.iload_n 3, 1) := by decide +kernel
theorem dX5_fit_16 : decode cX5_fit 16 = .ok (.bipush 24, 2) := by decide +kernel
theorem dX5_fit_18 : decode cX5_fit 18 = .ok (.if_icmp .gt 130, 3) := by decide +kernel
theorem dX5_fit_21 : decode cX5_fit 21 = .ok (.iload_n 3, 1) := by decide +kernel
theorem dX5_fit_22 : decode cX5_fit 22 = .ok (.aload_n 0, 1) := by decide +kernel
theorem dX5_fit_23 : decode cX5_fit 23 = .ok (.getfield 32, 3) := by decide +kernel
theorem dX5_fit_26 : decode cX5_fit 26 = .ok (.bipush 10, 2) := by decide +kernel
theorem dX5_fit_28 : decode cX5_fit 28 = .ok (.iaload, 1) := by decide +kernel
theorem dX5_fit_29 : decode cX5_fit 29 = .ok (.if_icmp .lt 9, 3) := by decide +kernel
theorem dX5_fit_32 : decode cX5_fit 32 = .ok (.iload_n 3, 1) := by decide +kernel
theorem dX5_fit_33 : decode cX5_fit 33 = .ok (.bipush 24, 2) := by decide +kernel
theorem dX5_fit_35 : decode cX5_fit 35 = .ok (.if_icmp .ne 7, 3) := by decide +kernel
theorem dX5_fit_38 : decode cX5_fit 38 = .ok (.iconst 1, 1) := by decide +kernel
theorem dX5_fit_39 : decode cX5_fit 39 = .ok (.goto 4, 3) := by decide +kernel
theorem dX5_fit_42 : decode cX5_fit 42 = .ok (.iconst 0, 1) := by decide +kernel
theorem dX5_fit_43 : decode cX5_fit 43 = .ok (.istore 4, 2) := by decide +kernel
theorem dX5_fit_45 : decode cX5_fit 45 = .ok (.iconst 0, 1) := by decide +kernel
theorem dX5_fit_46 : decode cX5_fit 46 = .ok (.istore 5, 2) := by decide +kernel
theorem dX5_fit_48 : decode cX5_fit 48 = .ok (.iload 5, 2) := by decide +kernel
theorem dX5_fit_50 : decode cX5_fit 50 = .ok (.aload_n 0, 1) := by decide +kernel
theorem dX5_fit_51 : decode cX5_fit 51 = .ok (.getfield 84, 3) := by decide +kernel
theorem dX5_fit_54 : decode cX5_fit 54 = .ok (.if_icmp .ge 73, 3) := by decide +kernel
theorem dX5_fit_57 : decode cX5_fit 57 = .ok (.iload 4, 2) := by decide +kernel
theorem dX5_fit_59 : decode cX5_fit 59 = .ok (.ifCond .eq 59, 3) := by decide +kernel
theorem dX5_fit_62 : decode cX5_fit 62 = .ok (.aload_n 0, 1) := by decide +kernel
theorem dX5_fit_63 : decode cX5_fit 63 = .ok (.getfield 54, 3) := by decide +kernel
theorem dX5_fit_66 : decode cX5_fit 66 = .ok (.iconst 3, 1) := by decide +kernel
theorem dX5_fit_67 : decode cX5_fit 67 = .ok (.iload 5, 2) := by decide +kernel
theorem dX5_fit_69 : decode cX5_fit 69 = .ok (.imul, 1) := by decide +kernel
theorem dX5_fit_70 : decode cX5_fit 70 = .ok (.iaload, 1) := by decide +kernel
theorem dX5_fit_71 : decode cX5_fit 71 = .ok (.iload_n 1, 1) := by decide +kernel
theorem dX5_fit_72 : decode cX5_fit 72 = .ok (.if_icmp .ne 42, 3) := by decide +kernel
theorem dX5_fit_75 : decode cX5_fit 75 = .ok (.aload_n 0, 1) := by decide +kernel
theorem dX5_fit_76 : decode cX5_fit 76 = .ok (.iload_n 3, 1) := by decide +kernel
theorem dX5_fit_77 : decode cX5_fit 77 = .ok (.aload_n 0, 1) := by decide +kernel
theorem dX5_fit_78 : decode cX5_fit 78 = .ok (.getfield 54, 3) := by decide +kernel
theorem dX5_fit_81 : decode cX5_fit 81 = .ok (.iconst 3, 1) := by decide +kernel
theorem dX5_fit_82 : decode cX5_fit 82 = .ok (.iload 5, 2) := by decide +kernel
theorem dX5_fit_84 : decode cX5_fit 84 = .ok (.imul, 1) := by decide +kernel
theorem dX5_fit_85 : decode cX5_fit 85 = .ok (.iconst 1, 1) := by decide +kernel
theorem dX5_fit_86 : decode cX5_fit 86 = .ok (.iadd, 1) := by decide +kernel
theorem dX5_fit_87 : decode cX5_fit 87 = .ok (.iaload, 1) := by decide +kernel
theorem dX5_fit_88 : decode cX5_fit 88 = .ok (.invokevirtual 278, 3) := by decide +kernel
theorem dX5_fit_91 : decode cX5_fit 91 = .ok (.aload_n 0, 1) := by decide +kernel
theorem dX5_fit_92 : decode cX5_fit 92 = .ok (.getfield 54, 3) := by decide +kernel
theorem dX5_fit_95 : decode cX5_fit 95 = .ok (.iconst 3, 1) := by decide +kernel
theorem dX5_fit_96 : decode cX5_fit 96 = .ok (.iload 5, 2) := by decide +kernel
theorem dX5_fit_98 : decode cX5_fit 98 = .ok (.imul, 1) := by decide +kernel
theorem dX5_fit_99 : decode cX5_fit 99 = .ok (.iconst 2, 1) := by decide +kernel
theorem dX5_fit_100 : decode cX5_fit 100 = .ok (.iadd, 1) := by decide +kernel
theorem dX5_fit_101 : decode cX5_fit 101 = .ok (.iaload, 1) := by decide +kernel
theorem dX5_fit_102 : decode cX5_fit 102 = .ok (.iconst 1, 1) := by decide +kernel
theorem dX5_fit_103 : decode cX5_fit 103 = .ok (.if_icmp .ne 7, 3) := by decide +kernel
theorem dX5_fit_106 : decode cX5_fit 106 = .ok (.iconst 1, 1) := by decide +kernel
theorem dX5_fit_107 : decode cX5_fit 107 = .ok (.goto 4, 3) := by decide +kernel
theorem dX5_fit_110 : decode cX5_fit 110 = .ok (.iconst 0, 1) := by decide +kernel
theorem dX5_fit_111 : decode cX5_fit 111 = .ok (.if_icmp .ne 7, 3) := by decide +kernel
theorem dX5_fit_114 : decode cX5_fit 114 = .ok (.iconst 1, 1) := by decide +kernel
theorem dX5_fit_115 : decode cX5_fit 115 = .ok (.goto 4, 3) := by decide +kernel
theorem dX5_fit_118 : decode cX5_fit 118 = .ok (.iconst 0, 1) := by decide +kernel
theorem dX5_fit_119 : decode cX5_fit 119 = .ok (.istore 4, 2) := by decide +kernel
theorem dX5_fit_121 : decode cX5_fit 121 = .ok (.iinc 5 1, 3) := by decide +kernel
theorem dX5_fit_124 : decode cX5_fit 124 = .ok (.goto (-76), 3) := by decide +kernel
theorem dX5_fit_127 : decode cX5_fit 127 = .ok (.iload_n 2, 1) := by decide +kernel
theorem dX5_fit_128 : decode cX5_fit 128 = .ok (.iload 4, 2) := by decide +kernel
theorem dX5_fit_130 : decode cX5_fit 130 = .ok (.ifCond .eq 9, 3) := by decide +kernel
theorem dX5_fit_133 : decode cX5_fit 133 = .ok (.iconst 1, 1) := by decide +kernel
theorem dX5_fit_134 : decode cX5_fit 134 = .ok (.iload_n 3, 1) := by decide +kernel
theorem dX5_fit_135 : decode cX5_fit 135 = .ok (.ishl, 1) := by decide +kernel
theorem dX5_fit_136 : decode cX5_fit 136 = .ok (.goto 4, 3) := by decide +kernel
theorem dX5_fit_139 : decode cX5_fit 139 = .ok (.iconst 0, 1) := by decide +kernel
theorem dX5_fit_140 : decode cX5_fit 140 = .ok (.ior, 1) := by decide +kernel
theorem dX5_fit_141 : decode cX5_fit 141 = .ok (.istore_n 2, 1) := by decide +kernel
theorem dX5_fit_142 : decode cX5_fit 142 = .ok (.iinc 3 1, 3) := by decide +kernel
theorem dX5_fit_145 : decode cX5_fit 145 = .ok (.goto (-130), 3) := by decide +kernel
theorem dX5_fit_148 : decode cX5_fit 148 = .ok (.iload_n 2, 1) := by decide +kernel
theorem dX5_fit_149 : decode cX5_fit 149 = .ok (.ireturn, 1) := by decide +kernel
theorem dX5_baths_0 : decode cX5_baths 0 = .ok (.iload_n 1, 1) := by decide +kernel
theorem dX5_baths_1 : decode cX5_baths 1 = .ok (.iconst 0, 1) := by decide +kernel
theorem dX5_baths_2 : decode cX5_baths 2 = .ok (.sipush 4095, 3) := by decide +kernel
end
section
theorem dX5_baths_5 : decode cX5_baths 5 = .ok (.invokestatic 87, 3) := by decide +kernel
theorem dX5_baths_8 : decode cX5_baths 8 = .ok (.ifCond .eq 12, 3) := by decide +kernel
theorem dX5_baths_11 : decode cX5_baths 11 = .ok (.iload_n 2, 1) := by decide +kernel
theorem dX5_baths_12 : decode cX5_baths 12 = .ok (.iconst 0, 1) := by decide +kernel
theorem dX5_baths_13 : decode cX5_baths 13 = .ok (.iconst 1, 1) := by decide +kernel
theorem dX5_baths_14 : decode cX5_baths 14 = .ok (.invokestatic 87, 3) := by decide +kernel
theorem dX5_baths_17 : decode cX5_baths 17 = .ok (.ifCond .ne 6, 3) := by decide +kernel
theorem dX5_baths_20 : decode cX5_baths 20 = .ok (.bipush (-3), 2) := by decide +kernel
theorem dX5_baths_22 : decode cX5_baths 22 = .ok (.ireturn, 1) := by decide +kernel
theorem dX5_baths_23 : decode cX5_baths 23 = .ok (.iconst (-1), 1) := by decide +kernel
theorem dX5_baths_24 : decode cX5_baths 24 = .ok (.istore_n 3, 1) := by decide +kernel
theorem dX5_baths_25 : decode cX5_baths 25 = .ok (.iconst 0, 1) := by decide +kernel
theorem dX5_baths_26 : decode cX5_baths 26 = .ok (.istore 4, 2) := by decide +kernel
theorem dX5_baths_28 : decode cX5_baths 28 = .ok (.iload 4, 2) := by decide +kernel
theorem dX5_baths_30 : decode cX5_baths 30 = .ok (.sipush 4096, 3) := by decide +kernel
theorem dX5_baths_33 : decode cX5_baths 33 = .ok (.if_icmp .ge 175, 3) := by decide +kernel
theorem dX5_baths_36 : decode cX5_baths 36 = .ok (.iload 4, 2) := by decide +kernel
theorem dX5_baths_38 : decode cX5_baths 38 = .ok (.iload_n 1, 1) := by decide +kernel
theorem dX5_baths_39 : decode cX5_baths 39 = .ok (.iand, 1) := by decide +kernel
theorem dX5_baths_40 : decode cX5_baths 40 = .ok (.ifCond .ne 24, 3) := by decide +kernel
theorem dX5_baths_43 : decode cX5_baths 43 = .ok (.iload_n 3, 1) := by decide +kernel
theorem dX5_baths_44 : decode cX5_baths 44 = .ok (.iconst (-1), 1) := by decide +kernel
theorem dX5_baths_45 : decode cX5_baths 45 = .ok (.if_icmp .eq 15, 3) := by decide +kernel
theorem dX5_baths_48 : decode cX5_baths 48 = .ok (.iload 4, 2) := by decide +kernel
theorem dX5_baths_50 : decode cX5_baths 50 = .ok (.invokestatic 281, 3) := by decide +kernel
theorem dX5_baths_53 : decode cX5_baths 53 = .ok (.iload_n 3, 1) := by decide +kernel
theorem dX5_baths_54 : decode cX5_baths 54 = .ok (.invokestatic 281, 3) := by decide +kernel
theorem dX5_baths_57 : decode cX5_baths 57 = .ok (.if_icmp .ge 7, 3) := by decide +kernel
theorem dX5_baths_60 : decode cX5_baths 60 = .ok (.iconst 1, 1) := by decide +kernel
theorem dX5_baths_61 : decode cX5_baths 61 = .ok (.goto 4, 3) := by decide +kernel
theorem dX5_baths_64 : decode cX5_baths 64 = .ok (.iconst 0, 1) := by decide +kernel
theorem dX5_baths_65 : decode cX5_baths 65 = .ok (.istore 5, 2) := by decide +kernel
theorem dX5_baths_67 : decode cX5_baths 67 = .ok (.bipush 99, 2) := by decide +kernel
theorem dX5_baths_69 : decode cX5_baths 69 = .ok (.istore 6, 2) := by decide +kernel
theorem dX5_baths_71 : decode cX5_baths 71 = .ok (.iconst 0, 1) := by decide +kernel
theorem dX5_baths_72 : decode cX5_baths 72 = .ok (.istore 7, 2) := by decide +kernel
theorem dX5_baths_74 : decode cX5_baths 74 = .ok (.iload 7, 2) := by decide +kernel
theorem dX5_baths_76 : decode cX5_baths 76 = .ok (.aload_n 0, 1) := by decide +kernel
theorem dX5_baths_77 : decode cX5_baths 77 = .ok (.getfield 32, 3) := by decide +kernel
theorem dX5_baths_80 : decode cX5_baths 80 = .ok (.bipush 10, 2) := by decide +kernel
theorem dX5_baths_82 : decode cX5_baths 82 = .ok (.iaload, 1) := by decide +kernel
theorem dX5_baths_83 : decode cX5_baths 83 = .ok (.if_icmp .ge 41, 3) := by decide +kernel
theorem dX5_baths_86 : decode cX5_baths 86 = .ok (.aload_n 0, 1) := by decide +kernel
theorem dX5_baths_87 : decode cX5_baths 87 = .ok (.getfield 32, 3) := by decide +kernel
theorem dX5_baths_90 : decode cX5_baths 90 = .ok (.bipush 11, 2) := by decide +kernel
theorem dX5_baths_92 : decode cX5_baths 92 = .ok (.iaload, 1) := by decide +kernel
theorem dX5_baths_93 : decode cX5_baths 93 = .ok (.iload 7, 2) := by decide +kernel
theorem dX5_baths_95 : decode cX5_baths 95 = .ok (.invokestatic 177, 3) := by decide +kernel
theorem dX5_baths_98 : decode cX5_baths 98 = .ok (.ifCond .eq 16, 3) := by decide +kernel
theorem dX5_baths_101 : decode cX5_baths 101 = .ok (.aload_n 0, 1) := by decide +kernel
theorem dX5_baths_102 : decode cX5_baths 102 = .ok (.getfield 32, 3) := by decide +kernel
theorem dX5_baths_105 : decode cX5_baths 105 = .ok (.bipush 10, 2) := by decide +kernel
theorem dX5_baths_107 : decode cX5_baths 107 = .ok (.iaload, 1) := by decide +kernel
theorem dX5_baths_108 : decode cX5_baths 108 = .ok (.iload 7, 2) := by decide +kernel
theorem dX5_baths_110 : decode cX5_baths 110 = .ok (.isub, 1) := by decide +kernel
theorem dX5_baths_111 : decode cX5_baths 111 = .ok (.goto 5, 3) := by decide +kernel
theorem dX5_baths_114 : decode cX5_baths 114 = .ok (.iload 6, 2) := by decide +kernel
theorem dX5_baths_116 : decode cX5_baths 116 = .ok (.istore 6, 2) := by decide +kernel
theorem dX5_baths_118 : decode cX5_baths 118 = .ok (.iinc 7 1, 3) := by decide +kernel
theorem dX5_baths_121 : decode cX5_baths 121 = .ok (.goto (-47), 3) := by decide +kernel
theorem dX5_baths_124 : decode cX5_baths 124 = .ok (.iconst 0, 1) := by decide +kernel
theorem dX5_baths_125 : decode cX5_baths 125 = .ok (.istore 7, 2) := by decide +kernel
theorem dX5_baths_127 : decode cX5_baths 127 = .ok (.iload 7, 2) := by decide +kernel
theorem dX5_baths_129 : decode cX5_baths 129 = .ok (.bipush 12, 2) := by decide +kernel
theorem dX5_baths_131 : decode cX5_baths 131 = .ok (.if_icmp .ge 59, 3) := by decide +kernel
theorem dX5_baths_134 : decode cX5_baths 134 = .ok (.iload 5, 2) := by decide +kernel
theorem dX5_baths_136 : decode cX5_baths 136 = .ok (.ifCond .eq 54, 3) := by decide +kernel
theorem dX5_baths_139 : decode cX5_baths 139 = .ok (.iload_n 1, 1) := by decide +kernel
theorem dX5_baths_140 : decode cX5_baths 140 = .ok (.iload 7, 2) := by decide +kernel
theorem dX5_baths_142 : decode cX5_baths 142 = .ok (.invokestatic 177, 3) := by decide +kernel
theorem dX5_baths_145 : decode cX5_baths 145 = .ok (.ifCond .eq 12, 3) := by decide +kernel
theorem dX5_baths_148 : decode cX5_baths 148 = .ok (.aload_n 0, 1) := by decide +kernel
theorem dX5_baths_149 : decode cX5_baths 149 = .ok (.iload 6, 2) := by decide +kernel
theorem dX5_baths_151 : decode cX5_baths 151 = .ok (.invokevirtual 211, 3) := by decide +kernel
theorem dX5_baths_154 : decode cX5_baths 154 = .ok (.ifCond .ne 7, 3) := by decide +kernel
theorem dX5_baths_157 : decode cX5_baths 157 = .ok (.iconst 1, 1) := by decide +kernel
theorem dX5_baths_158 : decode cX5_baths 158 = .ok (.goto 4, 3) := by decide +kernel
theorem dX5_baths_161 : decode cX5_baths 161 = .ok (.iconst 0, 1) := by decide +kernel
theorem dX5_baths_162 : decode cX5_baths 162 = .ok (.istore 5, 2) := by decide +kernel
theorem dX5_baths_164 : decode cX5_baths 164 = .ok (.iload 4, 2) := by decide +kernel
theorem dX5_baths_166 : decode cX5_baths 166 = .ok (.iload 7, 2) := by decide +kernel
theorem dX5_baths_168 : decode cX5_baths 168 = .ok (.invokestatic 177, 3) := by decide +kernel
theorem dX5_baths_171 : decode cX5_baths 171 = .ok (.ifCond .eq 7, 3) := by decide +kernel
theorem dX5_baths_174 : decode cX5_baths 174 = .ok (.iconst 1, 1) := by decide +kernel
theorem dX5_baths_175 : decode cX5_baths 175 = .ok (.goto 7, 3) := by decide +kernel
theorem dX5_baths_178 : decode cX5_baths 178 = .ok (.iload 6, 2) := by decide +kernel
theorem dX5_baths_180 : decode cX5_baths 180 = .ok (.iconst 1, 1) := by decide +kernel
theorem dX5_baths_181 : decode cX5_baths 181 = .ok (.iadd, 1) := by decide +kernel
theorem dX5_baths_182 : decode cX5_baths 182 = .ok (.istore 6, 2) := by decide +kernel
theorem dX5_baths_184 : decode cX5_baths 184 = .ok (.iinc 7 1, 3) := by decide +kernel
theorem dX5_baths_187 : decode cX5_baths 187 = .ok (.goto (-60), 3) := by decide +kernel
theorem dX5_baths_190 : decode cX5_baths 190 = .ok (.iload 5, 2) := by decide +kernel
theorem dX5_baths_192 : decode cX5_baths 192 = .ok (.ifCond .eq 8, 3) := by decide +kernel
theorem dX5_baths_195 : decode cX5_baths 195 = .ok (.iload 4, 2) := by decide +kernel
theorem dX5_baths_197 : decode cX5_baths 197 = .ok (.goto 4, 3) := by decide +kernel
theorem dX5_baths_200 : decode cX5_baths 200 = .ok (.iload_n 3, 1) := by decide +kernel
theorem dX5_baths_201 : decode cX5_baths 201 = .ok (.istore_n 3, 1) := by decide +kernel
theorem dX5_baths_202 : decode cX5_baths 202 = .ok (.iinc 4 1, 3) := by decide +kernel
theorem dX5_baths_205 : decode cX5_baths 205 = .ok (.goto (-177), 3) := by decide +kernel
theorem dX5_baths_208 : decode cX5_baths 208 = .ok (.iload_n 3, 1) := by decide +kernel
theorem dX5_baths_209 : decode cX5_baths 209 = .ok (.iconst (-1), 1) := by decide +kernel
theorem dX5_baths_210 : decode cX5_baths 210 = .ok (.if_icmp .eq 8, 3) := by decide +kernel
theorem dX5_baths_213 : decode cX5_baths 213 = .ok (.iload_n 2, 1) := by decide +kernel
theorem dX5_baths_214 : decode cX5_baths 214 = .ok (.iconst 1, 1) := by decide +kernel
theorem dX5_baths_215 : decode cX5_baths 215 = .ok (.if_icmp .ne 7, 3) := by decide +kernel
theorem dX5_baths_218 : decode cX5_baths 218 = .ok (.iload_n 3, 1) := by decide +kernel
theorem dX5_baths_219 : decode cX5_baths 219 = .ok (.goto 7, 3) := by decide +kernel
theorem dX5_baths_222 : decode cX5_baths 222 = .ok (.iload_n 3, 1) := by decide +kernel
theorem dX5_baths_223 : decode cX5_baths 223 = .ok (.invokestatic 281, 3) := by decide +kernel
theorem dX5_baths_226 : decode cX5_baths 226 = .ok (.ireturn, 1) := by decide +kernel
theorem dX5_slips_0 : decode cX5_slips 0 = .ok (.iload_n 1, 1) := by decide +kernel
theorem dX5_slips_1 : decode cX5_slips 1 = .ok (.iconst 0, 1) := by decide +kernel
theorem dX5_slips_2 : decode cX5_slips 2 = .ok (.bipush 10, 2) := by decide +kernel
theorem dX5_slips_4 : decode cX5_slips 4 = .ok (.invokestatic 87, 3) := by decide +kernel
theorem dX5_slips_7 : decode cX5_slips 7 = .ok (.ifCond .eq 33, 3) := by decide +kernel
theorem dX5_slips_10 : decode cX5_slips 10 = .ok (.iload_n 2, 1) := by decide +kernel
theorem dX5_slips_11 : decode cX5_slips 11 = .ok (.iconst 0, 1) := by decide +kernel
theorem dX5_slips_12 : decode cX5_slips 12 = .ok (.bipush 6, 2) := by decide +kernel
theorem dX5_slips_14 : decode cX5_slips 14 = .ok (.invokestatic 87, 3) := by decide +kernel
theorem dX5_slips_17 : decode cX5_slips 17 = .ok (.ifCond .eq 23, 3) := by decide +kernel
theorem dX5_slips_20 : decode cX5_slips 20 = .ok (.iload_n 3, 1) := by decide +kernel
theorem dX5_slips_21 : decode cX5_slips 21 = .ok (.iconst 0, 1) := by decide +kernel
theorem dX5_slips_22 : decode cX5_slips 22 = .ok (.bipush 6, 2) := by decide +kernel
theorem dX5_slips_24 : decode cX5_slips 24 = .ok (.invokestatic 87, 3) := by decide +kernel
theorem dX5_slips_27 : decode cX5_slips 27 = .ok (.ifCond .eq 13, 3) := by decide +kernel
theorem dX5_slips_30 : decode cX5_slips 30 = .ok (.iload 4, 2) := by decide +kernel
theorem dX5_slips_32 : decode cX5_slips 32 = .ok (.iconst 0, 1) := by decide +kernel
theorem dX5_slips_33 : decode cX5_slips 33 = .ok (.iconst 1, 1) := by decide +kernel
theorem dX5_slips_34 : decode cX5_slips 34 = .ok (.invokestatic 87, 3) := by decide +kernel
theorem dX5_slips_37 : decode cX5_slips 37 = .ok (.ifCond .ne 7, 3) := by decide +kernel
theorem dX5_slips_40 : decode cX5_slips 40 = .ok (.ldc2_w 120, 3) := by decide +kernel
theorem dX5_slips_43 : decode cX5_slips 43 = .ok (.lreturn, 1) := by decide +kernel
theorem dX5_slips_44 : decode cX5_slips 44 = .ok (.lconst 0, 1) := by decide +kernel
theorem dX5_slips_45 : decode cX5_slips 45 = .ok (.lstore 5, 2) := by decide +kernel
theorem dX5_slips_47 : decode cX5_slips 47 = .ok (.lconst 1, 1) := by decide +kernel
theorem dX5_slips_48 : decode cX5_slips 48 = .ok (.lstore 7, 2) := by decide +kernel
theorem dX5_slips_50 : decode cX5_slips 50 = .ok (.lconst 1, 1) := by decide +kernel
theorem dX5_slips_51 : decode cX5_slips 51 = .ok (.lstore 9, 2) := by decide +kernel
theorem dX5_slips_53 : decode cX5_slips 53 = .ok (.iconst 0, 1) := by decide +kernel
theorem dX5_slips_54 : decode cX5_slips 54 = .ok (.istore 11, 2) := by decide +kernel
theorem dX5_slips_56 : decode cX5_slips 56 = .ok (.iload 11, 2) := by decide +kernel
theorem dX5_slips_58 : decode cX5_slips 58 = .ok (.iload_n 2, 1) := by decide +kernel
theorem dX5_slips_59 : decode cX5_slips 59 = .ok (.if_icmp .ge 17, 3) := by decide +kernel
theorem dX5_slips_62 : decode cX5_slips 62 = .ok (.lload 7, 2) := by decide +kernel
theorem dX5_slips_64 : decode cX5_slips 64 = .ok (.ldc2_w 284, 3) := by decide +kernel
theorem dX5_slips_67 : decode cX5_slips 67 = .ok (.lmul, 1) := by decide +kernel
theorem dX5_slips_68 : decode cX5_slips 68 = .ok (.lstore 7, 2) := by decide +kernel
theorem dX5_slips_70 : decode cX5_slips 70 = .ok (.iinc 11 1, 3) := by decide +kernel
theorem dX5_slips_73 : decode cX5_slips 73 = .ok (.goto (-17), 3) := by decide +kernel
theorem dX5_slips_76 : decode cX5_slips 76 = .ok (.iconst 0, 1) := by decide +kernel
theorem dX5_slips_77 : decode cX5_slips 77 = .ok (.istore 11, 2) := by decide +kernel
theorem dX5_slips_79 : decode cX5_slips 79 = .ok (.iload 11, 2) := by decide +kernel
theorem dX5_slips_81 : decode cX5_slips 81 = .ok (.iload_n 2, 1) := by decide +kernel
theorem dX5_slips_82 : decode cX5_slips 82 = .ok (.if_icmp .gt 83, 3) := by decide +kernel
theorem dX5_slips_85 : decode cX5_slips 85 = .ok (.lload 9, 2) := by decide +kernel
theorem dX5_slips_87 : decode cX5_slips 87 = .ok (.lstore 12, 2) := by decide +kernel
theorem dX5_slips_89 : decode cX5_slips 89 = .ok (.iconst 0, 1) := by decide +kernel
theorem dX5_slips_90 : decode cX5_slips 90 = .ok (.istore 14, 2) := by decide +kernel
theorem dX5_slips_92 : decode cX5_slips 92 = .ok (.iload 14, 2) := by decide +kernel
theorem dX5_slips_94 : decode cX5_slips 94 = .ok (.iload_n 2, 1) := by decide +kernel
theorem dX5_slips_95 : decode cX5_slips 95 = .ok (.if_icmp .ge 31, 3) := by decide +kernel
theorem dX5_slips_98 : decode cX5_slips 98 = .ok (.lload 12, 2) := by decide +kernel
theorem dX5_slips_100 : decode cX5_slips 100 = .ok (.iload 14, 2) := by decide +kernel
theorem dX5_slips_102 : decode cX5_slips 102 = .ok (.iload 11, 2) := by decide +kernel
theorem dX5_slips_104 : decode cX5_slips 104 = .ok (.if_icmp .ge 8, 3) := by decide +kernel
theorem dX5_slips_107 : decode cX5_slips 107 = .ok (.iload_n 1, 1) := by decide +kernel
theorem dX5_slips_108 : decode cX5_slips 108 = .ok (.i2l, 1) := by decide +kernel
theorem dX5_slips_109 : decode cX5_slips 109 = .ok (.goto 8, 3) := by decide +kernel
theorem dX5_slips_112 : decode cX5_slips 112 = .ok (.bipush 10, 2) := by decide +kernel
theorem dX5_slips_114 : decode cX5_slips 114 = .ok (.iload_n 1, 1) := by decide +kernel
theorem dX5_slips_115 : decode cX5_slips 115 = .ok (.isub, 1) := by decide +kernel
theorem dX5_slips_116 : decode cX5_slips 116 = .ok (.i2l, 1) := by decide +kernel
theorem dX5_slips_117 : decode cX5_slips 117 = .ok (.lmul, 1) := by decide +kernel
theorem dX5_slips_118 : decode cX5_slips 118 = .ok (.lstore 12, 2) := by decide +kernel
theorem dX5_slips_120 : decode cX5_slips 120 = .ok (.iinc 14 1, 3) := by decide +kernel
theorem dX5_slips_123 : decode cX5_slips 123 = .ok (.goto (-31), 3) := by decide +kernel
theorem dX5_slips_126 : decode cX5_slips 126 = .ok (.lload 5, 2) := by decide +kernel
theorem dX5_slips_128 : decode cX5_slips 128 = .ok (.iload 11, 2) := by decide +kernel
theorem dX5_slips_130 : decode cX5_slips 130 = .ok (.iload_n 3, 1) := by decide +kernel
theorem dX5_slips_131 : decode cX5_slips 131 = .ok (.if_icmp .gt 8, 3) := by decide +kernel
theorem dX5_slips_134 : decode cX5_slips 134 = .ok (.lload 12, 2) := by decide +kernel
theorem dX5_slips_136 : decode cX5_slips 136 = .ok (.goto 4, 3) := by decide +kernel
theorem dX5_slips_139 : decode cX5_slips 139 = .ok (.lconst 0, 1) := by decide +kernel
theorem dX5_slips_140 : decode cX5_slips 140 = .ok (.ladd, 1) := by decide +kernel
theorem dX5_slips_141 : decode cX5_slips 141 = .ok (.lstore 5, 2) := by decide +kernel
theorem dX5_slips_143 : decode cX5_slips 143 = .ok (.lload 9, 2) := by decide +kernel
theorem dX5_slips_145 : decode cX5_slips 145 = .ok (.iload_n 2, 1) := by decide +kernel
theorem dX5_slips_146 : decode cX5_slips 146 = .ok (.iload 11, 2) := by decide +kernel
theorem dX5_slips_148 : decode cX5_slips 148 = .ok (.isub, 1) := by decide +kernel
theorem dX5_slips_149 : decode cX5_slips 149 = .ok (.i2l, 1) := by decide +kernel
theorem dX5_slips_150 : decode cX5_slips 150 = .ok (.lmul, 1) := by decide +kernel
theorem dX5_slips_151 : decode cX5_slips 151 = .ok (.iload 11, 2) := by decide +kernel
theorem dX5_slips_153 : decode cX5_slips 153 = .ok (.iconst 1, 1) := by decide +kernel
theorem dX5_slips_154 : decode cX5_slips 154 = .ok (.iadd, 1) := by decide +kernel
theorem dX5_slips_155 : decode cX5_slips 155 = .ok (.i2l, 1) := by decide +kernel
theorem dX5_slips_156 : decode cX5_slips 156 = .ok (.ldiv, 1) := by decide +kernel
theorem dX5_slips_157 : decode cX5_slips 157 = .ok (.lstore 9, 2) := by decide +kernel
theorem dX5_slips_159 : decode cX5_slips 159 = .ok (.iinc 11 1, 3) := by decide +kernel
theorem dX5_slips_162 : decode cX5_slips 162 = .ok (.goto (-83), 3) := by decide +kernel
theorem dX5_slips_165 : decode cX5_slips 165 = .ok (.lload 5, 2) := by decide +kernel
theorem dX5_slips_167 : decode cX5_slips 167 = .ok (.lstore 11, 2) := by decide +kernel
theorem dX5_slips_169 : decode cX5_slips 169 = .ok (.lload 7, 2) := by decide +kernel
theorem dX5_slips_171 : decode cX5_slips 171 = .ok (.lstore 13, 2) := by decide +kernel
theorem dX5_slips_173 : decode cX5_slips 173 = .ok (.lload 13, 2) := by decide +kernel
theorem dX5_slips_175 : decode cX5_slips 175 = .ok (.lconst 0, 1) := by decide +kernel
theorem dX5_slips_176 : decode cX5_slips 176 = .ok (.lcmp, 1) := by decide +kernel
theorem dX5_slips_177 : decode cX5_slips 177 = .ok (.ifCond .le 21, 3) := by decide +kernel
theorem dX5_slips_180 : decode cX5_slips 180 = .ok (.lload 11, 2) := by decide +kernel
theorem dX5_slips_182 : decode cX5_slips 182 = .ok (.lload 13, 2) := by decide +kernel
theorem dX5_slips_184 : decode cX5_slips 184 = .ok (.lrem, 1) := by decide +kernel
theorem dX5_slips_185 : decode cX5_slips 185 = .ok (.lstore 15, 2) := by decide +kernel
theorem dX5_slips_187 : decode cX5_slips 187 = .ok (.lload 13, 2) := by decide +kernel
theorem dX5_slips_189 : decode cX5_slips 189 = .ok (.lstore 11, 2) := by decide +kernel
theorem dX5_slips_191 : decode cX5_slips 191 = .ok (.lload 15, 2) := by decide +kernel
theorem dX5_slips_193 : decode cX5_slips 193 = .ok (.lstore 13, 2) := by decide +kernel
theorem dX5_slips_195 : decode cX5_slips 195 = .ok (.goto (-22), 3) := by decide +kernel
theorem dX5_slips_198 : decode cX5_slips 198 = .ok (.iload 4, 2) := by decide +kernel
theorem dX5_slips_200 : decode cX5_slips 200 = .ok (.ifCond .ne 8, 3) := by decide +kernel
theorem dX5_slips_203 : decode cX5_slips 203 = .ok (.lload 5, 2) := by decide +kernel
theorem dX5_slips_205 : decode cX5_slips 205 = .ok (.goto 5, 3) := by decide +kernel
theorem dX5_slips_208 : decode cX5_slips 208 = .ok (.lload 7, 2) := by decide +kernel
theorem dX5_slips_210 : decode cX5_slips 210 = .ok (.lload 11, 2) := by decide +kernel
theorem dX5_slips_212 : decode cX5_slips 212 = .ok (.ldiv, 1) := by decide +kernel
theorem dX5_slips_213 : decode cX5_slips 213 = .ok (.lreturn, 1) := by decide +kernel
theorem dX5_count_0 : decode cX5_count 0 = .ok (.iconst 0, 1) := by decide +kernel
theorem dX5_count_1 : decode cX5_count 1 = .ok (.istore_n 2, 1) := by decide +kernel
theorem dX5_count_2 : decode cX5_count 2 = .ok (.iconst 0, 1) := by decide +kernel
theorem dX5_count_3 : decode cX5_count 3 = .ok (.istore_n 3, 1) := by decide +kernel
theorem dX5_count_4 : decode cX5_count 4 = .ok (.iload_n 3, 1) := by decide +kernel
theorem dX5_count_5 : decode cX5_count 5 = .ok (.aload_n 0, 1) := by decide +kernel
theorem dX5_count_6 : decode cX5_count 6 = .ok (.getfield 72, 3) := by decide +kernel
theorem dX5_count_9 : decode cX5_count 9 = .ok (.if_icmp .ge 28, 3) := by decide +kernel
theorem dX5_count_12 : decode cX5_count 12 = .ok (.iload_n 2, 1) := by decide +kernel
theorem dX5_count_13 : decode cX5_count 13 = .ok (.aload_n 0, 1) := by decide +kernel
theorem dX5_count_14 : decode cX5_count 14 = .ok (.getfield 32, 3) := by decide +kernel
theorem dX5_count_17 : decode cX5_count 17 = .ok (.iload_n 3, 1) := by decide +kernel
theorem dX5_count_18 : decode cX5_count 18 = .ok (.iaload, 1) := by decide +kernel
theorem dX5_count_19 : decode cX5_count 19 = .ok (.ifCond .le 9, 3) := by decide +kernel
theorem dX5_count_22 : decode cX5_count 22 = .ok (.iconst 1, 1) := by decide +kernel
theorem dX5_count_23 : decode cX5_count 23 = .ok (.iload_n 3, 1) := by decide +kernel
theorem dX5_count_24 : decode cX5_count 24 = .ok (.ishl, 1) := by decide +kernel
theorem dX5_count_25 : decode cX5_count 25 = .ok (.goto 4, 3) := by decide +kernel
theorem dX5_count_28 : decode cX5_count 28 = .ok (.iconst 0, 1) := by decide +kernel
theorem dX5_count_29 : decode cX5_count 29 = .ok (.ior, 1) := by decide +kernel
theorem dX5_count_30 : decode cX5_count 30 = .ok (.istore_n 2, 1) := by decide +kernel
theorem dX5_count_31 : decode cX5_count 31 = .ok (.iinc 3 1, 3) := by decide +kernel
theorem dX5_count_34 : decode cX5_count 34 = .ok (.goto (-30), 3) := by decide +kernel
theorem dX5_count_37 : decode cX5_count 37 = .ok (.iload_n 1, 1) := by decide +kernel
theorem dX5_count_38 : decode cX5_count 38 = .ok (.tableswitch 137 0 12 #[66, 71, 76, 81, 86, 94, 96, 104, 112, 117, 122, 127, 132], 66) := by decide +kernel
theorem dX5_count_104 : decode cX5_count 104 = .ok (.aload_n 0, 1) := by decide +kernel
theorem dX5_count_105 : decode cX5_count 105 = .ok (.getfield 72, 3) := by decide +kernel
theorem dX5_count_108 : decode cX5_count 108 = .ok (.ireturn, 1) := by decide +kernel
theorem dX5_count_109 : decode cX5_count 109 = .ok (.aload_n 0, 1) := by decide +kernel
theorem dX5_count_110 : decode cX5_count 110 = .ok (.getfield 16, 3) := by decide +kernel
theorem dX5_count_113 : decode cX5_count 113 = .ok (.ireturn, 1) := by decide +kernel
theorem dX5_count_114 : decode cX5_count 114 = .ok (.aload_n 0, 1) := by decide +kernel
theorem dX5_count_115 : decode cX5_count 115 = .ok (.getfield 20, 3) := by decide +kernel
theorem dX5_count_118 : decode cX5_count 118 = .ok (.ireturn, 1) := by decide +kernel
theorem dX5_count_119 : decode cX5_count 119 = .ok (.aload_n 0, 1) := by decide +kernel
theorem dX5_count_120 : decode cX5_count 120 = .ok (.getfield 23, 3) := by decide +kernel
theorem dX5_count_123 : decode cX5_count 123 = .ok (.ireturn, 1) := by decide +kernel
theorem dX5_count_124 : decode cX5_count 124 = .ok (.aload_n 0, 1) := by decide +kernel
theorem dX5_count_125 : decode cX5_count 125 = .ok (.getfield 32, 3) := by decide +kernel
theorem dX5_count_128 : decode cX5_count 128 = .ok (.bipush 10, 2) := by decide +kernel
theorem dX5_count_130 : decode cX5_count 130 = .ok (.iaload, 1) := by decide +kernel
theorem dX5_count_131 : decode cX5_count 131 = .ok (.ireturn, 1) := by decide +kernel
theorem dX5_count_132 : decode cX5_count 132 = .ok (.iload_n 2, 1) := by decide +kernel
theorem dX5_count_133 : decode cX5_count 133 = .ok (.ireturn, 1) := by decide +kernel
theorem dX5_count_134 : decode cX5_count 134 = .ok (.aload_n 0, 1) := by decide +kernel
theorem dX5_count_135 : decode cX5_count 135 = .ok (.getfield 32, 3) := by decide +kernel
theorem dX5_count_138 : decode cX5_count 138 = .ok (.bipush 8, 2) := by decide +kernel
theorem dX5_count_140 : decode cX5_count 140 = .ok (.iaload, 1) := by decide +kernel
theorem dX5_count_141 : decode cX5_count 141 = .ok (.ireturn, 1) := by decide +kernel
theorem dX5_count_142 : decode cX5_count 142 = .ok (.aload_n 0, 1) := by decide +kernel
theorem dX5_count_143 : decode cX5_count 143 = .ok (.getfield 32, 3) := by decide +kernel
theorem dX5_count_146 : decode cX5_count 146 = .ok (.bipush 9, 2) := by decide +kernel
theorem dX5_count_148 : decode cX5_count 148 = .ok (.iaload, 1) := by decide +kernel
theorem dX5_count_149 : decode cX5_count 149 = .ok (.ireturn, 1) := by decide +kernel
theorem dX5_count_150 : decode cX5_count 150 = .ok (.aload_n 0, 1) := by decide +kernel
theorem dX5_count_151 : decode cX5_count 151 = .ok (.getfield 78, 3) := by decide +kernel
theorem dX5_count_154 : decode cX5_count 154 = .ok (.ireturn, 1) := by decide +kernel
theorem dX5_count_155 : decode cX5_count 155 = .ok (.aload_n 0, 1) := by decide +kernel
theorem dX5_count_156 : decode cX5_count 156 = .ok (.getfield 81, 3) := by decide +kernel
theorem dX5_count_159 : decode cX5_count 159 = .ok (.ireturn, 1) := by decide +kernel
theorem dX5_count_160 : decode cX5_count 160 = .ok (.aload_n 0, 1) := by decide +kernel
theorem dX5_count_161 : decode cX5_count 161 = .ok (.getfield 84, 3) := by decide +kernel
theorem dX5_count_164 : decode cX5_count 164 = .ok (.ireturn, 1) := by decide +kernel
theorem dX5_count_165 : decode cX5_count 165 = .ok (.aload_n 0, 1) := by decide +kernel
theorem dX5_count_166 : decode cX5_count 166 = .ok (.getfield 75, 3) := by decide +kernel
theorem dX5_count_169 : decode cX5_count 169 = .ok (.ireturn, 1) := by decide +kernel
theorem dX5_count_170 : decode cX5_count 170 = .ok (.aload_n 0, 1) := by decide +kernel
theorem dX5_count_171 : decode cX5_count 171 = .ok (.getfield 91, 3) := by decide +kernel
theorem dX5_count_174 : decode cX5_count 174 = .ok (.ireturn, 1) := by decide +kernel
theorem dX5_count_175 : decode cX5_count 175 = .ok (.bipush (-3), 2) := by decide +kernel
theorem dX5_count_177 : decode cX5_count 177 = .ok (.ireturn, 1) := by decide +kernel
theorem dL_law_0 : decode cL_law 0 = .ok (.new 7, 3) := by decide +kernel
theorem dL_law_3 : decode cL_law 3 = .ok (.dup, 1) := by decide +kernel
theorem dL_law_4 : decode cL_law 4 = .ok (.invokespecial 9, 3) := by decide +kernel
theorem dL_law_7 : decode cL_law 7 = .ok (.astore_n 1, 1) := by decide +kernel
theorem dL_law_8 : decode cL_law 8 = .ok (.new 10, 3) := by decide +kernel
theorem dL_law_11 : decode cL_law 11 = .ok (.dup, 1) := by decide +kernel
theorem dL_law_12 : decode cL_law 12 = .ok (.invokespecial 12, 3) := by decide +kernel
theorem dL_law_15 : decode cL_law 15 = .ok (.astore_n 2, 1) := by decide +kernel
theorem dL_law_16 : decode cL_law 16 = .ok (.iconst 0, 1) := by decide +kernel
theorem dL_law_17 : decode cL_law 17 = .ok (.istore_n 3, 1) := by decide +kernel
theorem dL_law_18 : decode cL_law 18 = .ok (.iload_n 3, 1) := by decide +kernel
theorem dL_law_19 : decode cL_law 19 = .ok (.aload_n 0, 1) := by decide +kernel
theorem dL_law_20 : decode cL_law 20 = .ok (.arraylength, 1) := by decide +kernel
theorem dL_law_21 : decode cL_law 21 = .ok (.iconst 5, 1) := by decide +kernel
theorem dL_law_22 : decode cL_law 22 = .ok (.isub, 1) := by decide +kernel
theorem dL_law_23 : decode cL_law 23 = .ok (.if_icmp .gt 926, 3) := by decide +kernel
theorem dL_law_26 : decode cL_law 26 = .ok (.aload_n 0, 1) := by decide +kernel
theorem dL_law_27 : decode cL_law 27 = .ok (.iload_n 3, 1) := by decide +kernel
theorem dL_law_28 : decode cL_law 28 = .ok (.iaload, 1) := by decide +kernel
theorem dL_law_29 : decode cL_law 29 = .ok (.bipush 31, 2) := by decide +kernel
theorem dL_law_31 : decode cL_law 31 = .ok (.iand, 1) := by decide +kernel
theorem dL_law_32 : decode cL_law 32 = .ok (.tableswitch 911 0 31 #[144, 167, 180, 193, 206, 239, 272, 305, 328, 351, 384, 417, 430, 443, 456, 479, 502, 535, 558, 571, 594, 617, 630, 653, 676, 699, 722, 765, 778, 801, 834, 888], 144) := by decide +kernel
theorem dL_law_176 : decode cL_law 176 = .ok (.aload_n 1, 1) := by decide +kernel
theorem dL_law_177 : decode cL_law 177 = .ok (.aload_n 0, 1) := by decide +kernel
theorem dL_law_178 : decode cL_law 178 = .ok (.iload_n 3, 1) := by decide +kernel
theorem dL_law_179 : decode cL_law 179 = .ok (.iconst 1, 1) := by decide +kernel
theorem dL_law_180 : decode cL_law 180 = .ok (.iadd, 1) := by decide +kernel
theorem dL_law_181 : decode cL_law 181 = .ok (.iaload, 1) := by decide +kernel
theorem dL_law_182 : decode cL_law 182 = .ok (.invokevirtual 13, 3) := by decide +kernel
theorem dL_law_185 : decode cL_law 185 = .ok (.aload_n 2, 1) := by decide +kernel
theorem dL_law_186 : decode cL_law 186 = .ok (.aload_n 0, 1) := by decide +kernel
theorem dL_law_187 : decode cL_law 187 = .ok (.iload_n 3, 1) := by decide +kernel
theorem dL_law_188 : decode cL_law 188 = .ok (.iconst 1, 1) := by decide +kernel
theorem dL_law_189 : decode cL_law 189 = .ok (.iadd, 1) := by decide +kernel
theorem dL_law_190 : decode cL_law 190 = .ok (.iaload, 1) := by decide +kernel
theorem dL_law_191 : decode cL_law 191 = .ok (.invokevirtual 17, 3) := by decide +kernel
theorem dL_law_194 : decode cL_law 194 = .ok (.if_icmp .eq 749, 3) := by decide +kernel
theorem dL_law_197 : decode cL_law 197 = .ok (.iconst 0, 1) := by decide +kernel
theorem dL_law_198 : decode cL_law 198 = .ok (.ireturn, 1) := by decide +kernel
theorem dL_law_199 : decode cL_law 199 = .ok (.aload_n 1, 1) := by decide +kernel
theorem dL_law_200 : decode cL_law 200 = .ok (.invokevirtual 18, 3) := by decide +kernel
theorem dL_law_203 : decode cL_law 203 = .ok (.aload_n 2, 1) := by decide +kernel
theorem dL_law_204 : decode cL_law 204 = .ok (.invokevirtual 22, 3) := by decide +kernel
theorem dL_law_207 : decode cL_law 207 = .ok (.if_icmp .eq 736, 3) := by decide +kernel
theorem dL_law_210 : decode cL_law 210 = .ok (.iconst 0, 1) := by decide +kernel
theorem dL_law_211 : decode cL_law 211 = .ok (.ireturn, 1) := by decide +kernel
theorem dL_law_212 : decode cL_law 212 = .ok (.aload_n 1, 1) := by decide +kernel
theorem dL_law_213 : decode cL_law 213 = .ok (.invokevirtual 23, 3) := by decide +kernel
theorem dL_law_216 : decode cL_law 216 = .ok (.aload_n 2, 1) := by decide +kernel
theorem dL_law_217 : decode cL_law 217 = .ok (.invokevirtual 26, 3) := by decide +kernel
theorem dL_law_220 : decode cL_law 220 = .ok (.if_icmp .eq 723, 3) := by decide +kernel
theorem dL_law_223 : decode cL_law 223 = .ok (.iconst 0, 1) := by decide +kernel
theorem dL_law_224 : decode cL_law 224 = .ok (.ireturn, 1) := by decide +kernel
theorem dL_law_225 : decode cL_law 225 = .ok (.aload_n 1, 1) := by decide +kernel
theorem dL_law_226 : decode cL_law 226 = .ok (.invokevirtual 27, 3) := by decide +kernel
theorem dL_law_229 : decode cL_law 229 = .ok (.aload_n 2, 1) := by decide +kernel
theorem dL_law_230 : decode cL_law 230 = .ok (.invokevirtual 30, 3) := by decide +kernel
theorem dL_law_233 : decode cL_law 233 = .ok (.if_icmp .eq 710, 3) := by decide +kernel
theorem dL_law_236 : decode cL_law 236 = .ok (.iconst 0, 1) := by decide +kernel
theorem dL_law_237 : decode cL_law 237 = .ok (.ireturn, 1) := by decide +kernel
theorem dL_law_238 : decode cL_law 238 = .ok (.aload_n 1, 1) := by decide +kernel
theorem dL_law_239 : decode cL_law 239 = .ok (.aload_n 0, 1) := by decide +kernel
theorem dL_law_240 : decode cL_law 240 = .ok (.iload_n 3, 1) := by decide +kernel
theorem dL_law_241 : decode cL_law 241 = .ok (.iconst 1, 1) := by decide +kernel
theorem dL_law_242 : decode cL_law 242 = .ok (.iadd, 1) := by decide +kernel
theorem dL_law_243 : decode cL_law 243 = .ok (.iaload, 1) := by decide +kernel
theorem dL_law_244 : decode cL_law 244 = .ok (.aload_n 0, 1) := by decide +kernel
theorem dL_law_245 : decode cL_law 245 = .ok (.iload_n 3, 1) := by decide +kernel
theorem dL_law_246 : decode cL_law 246 = .ok (.iconst 2, 1) := by decide +kernel
theorem dL_law_247 : decode cL_law 247 = .ok (.iadd, 1) := by decide +kernel
theorem dL_law_248 : decode cL_law 248 = .ok (.iaload, 1) := by decide +kernel
theorem dL_law_249 : decode cL_law 249 = .ok (.invokevirtual 31, 3) := by decide +kernel
theorem dL_law_252 : decode cL_law 252 = .ok (.aload_n 2, 1) := by decide +kernel
theorem dL_law_253 : decode cL_law 253 = .ok (.aload_n 0, 1) := by decide +kernel
theorem dL_law_254 : decode cL_law 254 = .ok (.iload_n 3, 1) := by decide +kernel
theorem dL_law_255 : decode cL_law 255 = .ok (.iconst 1, 1) := by decide +kernel
theorem dL_law_256 : decode cL_law 256 = .ok (.iadd, 1) := by decide +kernel
theorem dL_law_257 : decode cL_law 257 = .ok (.iaload, 1) := by decide +kernel
theorem dL_law_258 : decode cL_law 258 = .ok (.aload_n 0, 1) := by decide +kernel
theorem dL_law_259 : decode cL_law 259 = .ok (.iload_n 3, 1) := by decide +kernel
theorem dL_law_260 : decode cL_law 260 = .ok (.iconst 2, 1) := by decide +kernel
theorem dL_law_261 : decode cL_law 261 = .ok (.iadd, 1) := by decide +kernel
theorem dL_law_262 : decode cL_law 262 = .ok (.iaload, 1) := by decide +kernel
theorem dL_law_263 : decode cL_law 263 = .ok (.invokevirtual 35, 3) := by decide +kernel
theorem dL_law_266 : decode cL_law 266 = .ok (.if_icmp .eq 677, 3) := by decide +kernel
theorem dL_law_269 : decode cL_law 269 = .ok (.iconst 0, 1) := by decide +kernel
theorem dL_law_270 : decode cL_law 270 = .ok (.ireturn, 1) := by decide +kernel
theorem dL_law_271 : decode cL_law 271 = .ok (.aload_n 1, 1) := by decide +kernel
theorem dL_law_272 : decode cL_law 272 = .ok (.aload_n 0, 1) := by decide +kernel
theorem dL_law_273 : decode cL_law 273 = .ok (.iload_n 3, 1) := by decide +kernel
theorem dL_law_274 : decode cL_law 274 = .ok (.iconst 1, 1) := by decide +kernel
theorem dL_law_275 : decode cL_law 275 = .ok (.iadd, 1) := by decide +kernel
theorem dL_law_276 : decode cL_law 276 = .ok (.iaload, 1) := by decide +kernel
theorem dL_law_277 : decode cL_law 277 = .ok (.aload_n 0, 1) := by decide +kernel
theorem dL_law_278 : decode cL_law 278 = .ok (.iload_n 3, 1) := by decide +kernel
theorem dL_law_279 : decode cL_law 279 = .ok (.iconst 2, 1) := by decide +kernel
theorem dL_law_280 : decode cL_law 280 = .ok (.iadd, 1) := by decide +kernel
theorem dL_law_281 : decode cL_law 281 = .ok (.iaload, 1) := by decide +kernel
theorem dL_law_282 : decode cL_law 282 = .ok (.invokevirtual 36, 3) := by decide +kernel
theorem dL_law_285 : decode cL_law 285 = .ok (.aload_n 2, 1) := by decide +kernel
theorem dL_law_286 : decode cL_law 286 = .ok (.aload_n 0, 1) := by decide +kernel
theorem dL_law_287 : decode cL_law 287 = .ok (.iload_n 3, 1) := by decide +kernel
theorem dL_law_288 : decode cL_law 288 = .ok (.iconst 1, 1) := by decide +kernel
theorem dL_law_289 : decode cL_law 289 = .ok (.iadd, 1) := by decide +kernel
theorem dL_law_290 : decode cL_law 290 = .ok (.iaload, 1) := by decide +kernel
theorem dL_law_291 : decode cL_law 291 = .ok (.aload_n 0, 1) := by decide +kernel
theorem dL_law_292 : decode cL_law 292 = .ok (.iload_n 3, 1) := by decide +kernel
theorem dL_law_293 : decode cL_law 293 = .ok (.iconst 2, 1) := by decide +kernel
theorem dL_law_294 : decode cL_law 294 = .ok (.iadd, 1) := by decide +kernel
theorem dL_law_295 : decode cL_law 295 = .ok (.iaload, 1) := by decide +kernel
theorem dL_law_296 : decode cL_law 296 = .ok (.invokevirtual 39, 3) := by decide +kernel
theorem dL_law_299 : decode cL_law 299 = .ok (.if_icmp .eq 644, 3) := by decide +kernel
theorem dL_law_302 : decode cL_law 302 = .ok (.iconst 0, 1) := by decide +kernel
theorem dL_law_303 : decode cL_law 303 = .ok (.ireturn, 1) := by decide +kernel
theorem dL_law_304 : decode cL_law 304 = .ok (.aload_n 1, 1) := by decide +kernel
theorem dL_law_305 : decode cL_law 305 = .ok (.aload_n 0, 1) := by decide +kernel
theorem dL_law_306 : decode cL_law 306 = .ok (.iload_n 3, 1) := by decide +kernel
theorem dL_law_307 : decode cL_law 307 = .ok (.iconst 1, 1) := by decide +kernel
theorem dL_law_308 : decode cL_law 308 = .ok (.iadd, 1) := by decide +kernel
theorem dL_law_309 : decode cL_law 309 = .ok (.iaload, 1) := by decide +kernel
theorem dL_law_310 : decode cL_law 310 = .ok (.aload_n 0, 1) := by decide +kernel
theorem dL_law_311 : decode cL_law 311 = .ok (.iload_n 3, 1) := by decide +kernel
theorem dL_law_312 : decode cL_law 312 = .ok (.iconst 2, 1) := by decide +kernel
theorem dL_law_313 : decode cL_law 313 = .ok (.iadd, 1) := by decide +kernel
theorem dL_law_314 : decode cL_law 314 = .ok (.iaload, 1) := by decide +kernel
theorem dL_law_315 : decode cL_law 315 = .ok (.invokevirtual 40, 3) := by decide +kernel
theorem dL_law_318 : decode cL_law 318 = .ok (.aload_n 2, 1) := by decide +kernel
theorem dL_law_319 : decode cL_law 319 = .ok (.aload_n 0, 1) := by decide +kernel
theorem dL_law_320 : decode cL_law 320 = .ok (.iload_n 3, 1) := by decide +kernel
theorem dL_law_321 : decode cL_law 321 = .ok (.iconst 1, 1) := by decide +kernel
theorem dL_law_322 : decode cL_law 322 = .ok (.iadd, 1) := by decide +kernel
theorem dL_law_323 : decode cL_law 323 = .ok (.iaload, 1) := by decide +kernel
theorem dL_law_324 : decode cL_law 324 = .ok (.aload_n 0, 1) := by decide +kernel
theorem dL_law_325 : decode cL_law 325 = .ok (.iload_n 3, 1) := by decide +kernel
theorem dL_law_326 : decode cL_law 326 = .ok (.iconst 2, 1) := by decide +kernel
theorem dL_law_327 : decode cL_law 327 = .ok (.iadd, 1) := by decide +kernel
theorem dL_law_328 : decode cL_law 328 = .ok (.iaload, 1) := by decide +kernel
theorem dL_law_329 : decode cL_law 329 = .ok (.invokevirtual 43, 3) := by decide +kernel
theorem dL_law_332 : decode cL_law 332 = .ok (.if_icmp .eq 611, 3) := by decide +kernel
theorem dL_law_335 : decode cL_law 335 = .ok (.iconst 0, 1) := by decide +kernel
theorem dL_law_336 : decode cL_law 336 = .ok (.ireturn, 1) := by decide +kernel
theorem dL_law_337 : decode cL_law 337 = .ok (.aload_n 1, 1) := by decide +kernel
theorem dL_law_338 : decode cL_law 338 = .ok (.aload_n 0, 1) := by decide +kernel
theorem dL_law_339 : decode cL_law 339 = .ok (.iload_n 3, 1) := by decide +kernel
theorem dL_law_340 : decode cL_law 340 = .ok (.iconst 1, 1) := by decide +kernel
theorem dL_law_341 : decode cL_law 341 = .ok (.iadd, 1) := by decide +kernel
theorem dL_law_342 : decode cL_law 342 = .ok (.iaload, 1) := by decide +kernel
theorem dL_law_343 : decode cL_law 343 = .ok (.invokevirtual 44, 3) := by decide +kernel
theorem dL_law_346 : decode cL_law 346 = .ok (.aload_n 2, 1) := by decide +kernel
theorem dL_law_347 : decode cL_law 347 = .ok (.aload_n 0, 1) := by decide +kernel
theorem dL_law_348 : decode cL_law 348 = .ok (.iload_n 3, 1) := by decide +kernel
theorem dL_law_349 : decode cL_law 349 = .ok (.iconst 1, 1) := by decide +kernel
theorem dL_law_350 : decode cL_law 350 = .ok (.iadd, 1) := by decide +kernel
theorem dL_law_351 : decode cL_law 351 = .ok (.iaload, 1) := by decide +kernel
theorem dL_law_352 : decode cL_law 352 = .ok (.invokevirtual 47, 3) := by decide +kernel
theorem dL_law_355 : decode cL_law 355 = .ok (.if_icmp .eq 588, 3) := by decide +kernel
theorem dL_law_358 : decode cL_law 358 = .ok (.iconst 0, 1) := by decide +kernel
theorem dL_law_359 : decode cL_law 359 = .ok (.ireturn, 1) := by decide +kernel
theorem dL_law_360 : decode cL_law 360 = .ok (.aload_n 1, 1) := by decide +kernel
theorem dL_law_361 : decode cL_law 361 = .ok (.aload_n 0, 1) := by decide +kernel
theorem dL_law_362 : decode cL_law 362 = .ok (.iload_n 3, 1) := by decide +kernel
theorem dL_law_363 : decode cL_law 363 = .ok (.iconst 1, 1) := by decide +kernel
theorem dL_law_364 : decode cL_law 364 = .ok (.iadd, 1) := by decide +kernel
theorem dL_law_365 : decode cL_law 365 = .ok (.iaload, 1) := by decide +kernel
theorem dL_law_366 : decode cL_law 366 = .ok (.invokevirtual 48, 3) := by decide +kernel
theorem dL_law_369 : decode cL_law 369 = .ok (.aload_n 2, 1) := by decide +kernel
theorem dL_law_370 : decode cL_law 370 = .ok (.aload_n 0, 1) := by decide +kernel
theorem dL_law_371 : decode cL_law 371 = .ok (.iload_n 3, 1) := by decide +kernel
theorem dL_law_372 : decode cL_law 372 = .ok (.iconst 1, 1) := by decide +kernel
theorem dL_law_373 : decode cL_law 373 = .ok (.iadd, 1) := by decide +kernel
theorem dL_law_374 : decode cL_law 374 = .ok (.iaload, 1) := by decide +kernel
theorem dL_law_375 : decode cL_law 375 = .ok (.invokevirtual 51, 3) := by decide +kernel
theorem dL_law_378 : decode cL_law 378 = .ok (.if_icmp .eq 565, 3) := by decide +kernel
theorem dL_law_381 : decode cL_law 381 = .ok (.iconst 0, 1) := by decide +kernel
theorem dL_law_382 : decode cL_law 382 = .ok (.ireturn, 1) := by decide +kernel
theorem dL_law_383 : decode cL_law 383 = .ok (.aload_n 1, 1) := by decide +kernel
theorem dL_law_384 : decode cL_law 384 = .ok (.aload_n 0, 1) := by decide +kernel
theorem dL_law_385 : decode cL_law 385 = .ok (.iload_n 3, 1) := by decide +kernel
theorem dL_law_386 : decode cL_law 386 = .ok (.iconst 1, 1) := by decide +kernel
theorem dL_law_387 : decode cL_law 387 = .ok (.iadd, 1) := by decide +kernel
theorem dL_law_388 : decode cL_law 388 = .ok (.iaload, 1) := by decide +kernel
theorem dL_law_389 : decode cL_law 389 = .ok (.aload_n 0, 1) := by decide +kernel
theorem dL_law_390 : decode cL_law 390 = .ok (.iload_n 3, 1) := by decide +kernel
theorem dL_law_391 : decode cL_law 391 = .ok (.iconst 2, 1) := by decide +kernel
theorem dL_law_392 : decode cL_law 392 = .ok (.iadd, 1) := by decide +kernel
theorem dL_law_393 : decode cL_law 393 = .ok (.iaload, 1) := by decide +kernel
theorem dL_law_394 : decode cL_law 394 = .ok (.invokevirtual 52, 3) := by decide +kernel
theorem dL_law_397 : decode cL_law 397 = .ok (.aload_n 2, 1) := by decide +kernel
theorem dL_law_398 : decode cL_law 398 = .ok (.aload_n 0, 1) := by decide +kernel
theorem dL_law_399 : decode cL_law 399 = .ok (.iload_n 3, 1) := by decide +kernel
theorem dL_law_400 : decode cL_law 400 = .ok (.iconst 1, 1) := by decide +kernel
theorem dL_law_401 : decode cL_law 401 = .ok (.iadd, 1) := by decide +kernel
theorem dL_law_402 : decode cL_law 402 = .ok (.iaload, 1) := by decide +kernel
theorem dL_law_403 : decode cL_law 403 = .ok (.aload_n 0, 1) := by decide +kernel
theorem dL_law_404 : decode cL_law 404 = .ok (.iload_n 3, 1) := by decide +kernel
theorem dL_law_405 : decode cL_law 405 = .ok (.iconst 2, 1) := by decide +kernel
theorem dL_law_406 : decode cL_law 406 = .ok (.iadd, 1) := by decide +kernel
theorem dL_law_407 : decode cL_law 407 = .ok (.iaload, 1) := by decide +kernel
theorem dL_law_408 : decode cL_law 408 = .ok (.invokevirtual 55, 3) := by decide +kernel
theorem dL_law_411 : decode cL_law 411 = .ok (.if_icmp .eq 532, 3) := by decide +kernel
theorem dL_law_414 : decode cL_law 414 = .ok (.iconst 0, 1) := by decide +kernel
theorem dL_law_415 : decode cL_law 415 = .ok (.ireturn, 1) := by decide +kernel
theorem dL_law_416 : decode cL_law 416 = .ok (.aload_n 1, 1) := by decide +kernel
theorem dL_law_417 : decode cL_law 417 = .ok (.aload_n 0, 1) := by decide +kernel
theorem dL_law_418 : decode cL_law 418 = .ok (.iload_n 3, 1) := by decide +kernel
theorem dL_law_419 : decode cL_law 419 = .ok (.iconst 1, 1) := by decide +kernel
theorem dL_law_420 : decode cL_law 420 = .ok (.iadd, 1) := by decide +kernel
theorem dL_law_421 : decode cL_law 421 = .ok (.iaload, 1) := by decide +kernel
theorem dL_law_422 : decode cL_law 422 = .ok (.aload_n 0, 1) := by decide +kernel
theorem dL_law_423 : decode cL_law 423 = .ok (.iload_n 3, 1) := by decide +kernel
theorem dL_law_424 : decode cL_law 424 = .ok (.iconst 2, 1) := by decide +kernel
theorem dL_law_425 : decode cL_law 425 = .ok (.iadd, 1) := by decide +kernel
theorem dL_law_426 : decode cL_law 426 = .ok (.iaload, 1) := by decide +kernel
theorem dL_law_427 : decode cL_law 427 = .ok (.invokevirtual 56, 3) := by decide +kernel
theorem dL_law_430 : decode cL_law 430 = .ok (.aload_n 2, 1) := by decide +kernel
theorem dL_law_431 : decode cL_law 431 = .ok (.aload_n 0, 1) := by decide +kernel
theorem dL_law_432 : decode cL_law 432 = .ok (.iload_n 3, 1) := by decide +kernel
theorem dL_law_433 : decode cL_law 433 = .ok (.iconst 1, 1) := by decide +kernel
theorem dL_law_434 : decode cL_law 434 = .ok (.iadd, 1) := by decide +kernel
theorem dL_law_435 : decode cL_law 435 = .ok (.iaload, 1) := by decide +kernel
theorem dL_law_436 : decode cL_law 436 = .ok (.aload_n 0, 1) := by decide +kernel
theorem dL_law_437 : decode cL_law 437 = .ok (.iload_n 3, 1) := by decide +kernel
theorem dL_law_438 : decode cL_law 438 = .ok (.iconst 2, 1) := by decide +kernel
theorem dL_law_439 : decode cL_law 439 = .ok (.iadd, 1) := by decide +kernel
theorem dL_law_440 : decode cL_law 440 = .ok (.iaload, 1) := by decide +kernel
theorem dL_law_441 : decode cL_law 441 = .ok (.invokevirtual 59, 3) := by decide +kernel
theorem dL_law_444 : decode cL_law 444 = .ok (.if_icmp .eq 499, 3) := by decide +kernel
theorem dL_law_447 : decode cL_law 447 = .ok (.iconst 0, 1) := by decide +kernel
theorem dL_law_448 : decode cL_law 448 = .ok (.ireturn, 1) := by decide +kernel
theorem dL_law_449 : decode cL_law 449 = .ok (.aload_n 1, 1) := by decide +kernel
theorem dL_law_450 : decode cL_law 450 = .ok (.invokevirtual 60, 3) := by decide +kernel
theorem dL_law_453 : decode cL_law 453 = .ok (.aload_n 2, 1) := by decide +kernel
theorem dL_law_454 : decode cL_law 454 = .ok (.invokevirtual 63, 3) := by decide +kernel
theorem dL_law_457 : decode cL_law 457 = .ok (.if_icmp .eq 486, 3) := by decide +kernel
theorem dL_law_460 : decode cL_law 460 = .ok (.iconst 0, 1) := by decide +kernel
theorem dL_law_461 : decode cL_law 461 = .ok (.ireturn, 1) := by decide +kernel
theorem dL_law_462 : decode cL_law 462 = .ok (.aload_n 1, 1) := by decide +kernel
theorem dL_law_463 : decode cL_law 463 = .ok (.invokevirtual 64, 3) := by decide +kernel
theorem dL_law_466 : decode cL_law 466 = .ok (.aload_n 2, 1) := by decide +kernel
theorem dL_law_467 : decode cL_law 467 = .ok (.invokevirtual 67, 3) := by decide +kernel
theorem dL_law_470 : decode cL_law 470 = .ok (.if_icmp .eq 473, 3) := by decide +kernel
theorem dL_law_473 : decode cL_law 473 = .ok (.iconst 0, 1) := by decide +kernel
theorem dL_law_474 : decode cL_law 474 = .ok (.ireturn, 1) := by decide +kernel
theorem dL_law_475 : decode cL_law 475 = .ok (.aload_n 1, 1) := by decide +kernel
theorem dL_law_476 : decode cL_law 476 = .ok (.invokevirtual 68, 3) := by decide +kernel
theorem dL_law_479 : decode cL_law 479 = .ok (.aload_n 2, 1) := by decide +kernel
theorem dL_law_480 : decode cL_law 480 = .ok (.invokevirtual 71, 3) := by decide +kernel
theorem dL_law_483 : decode cL_law 483 = .ok (.if_icmp .eq 460, 3) := by decide +kernel
theorem dL_law_486 : decode cL_law 486 = .ok (.iconst 0, 1) := by decide +kernel
theorem dL_law_487 : decode cL_law 487 = .ok (.ireturn, 1) := by decide +kernel
theorem dL_law_488 : decode cL_law 488 = .ok (.aload_n 1, 1) := by decide +kernel
theorem dL_law_489 : decode cL_law 489 = .ok (.aload_n 0, 1) := by decide +kernel
theorem dL_law_490 : decode cL_law 490 = .ok (.iload_n 3, 1) := by decide +kernel
theorem dL_law_491 : decode cL_law 491 = .ok (.iconst 1, 1) := by decide +kernel
theorem dL_law_492 : decode cL_law 492 = .ok (.iadd, 1) := by decide +kernel
theorem dL_law_493 : decode cL_law 493 = .ok (.iaload, 1) := by decide +kernel
theorem dL_law_494 : decode cL_law 494 = .ok (.invokevirtual 72, 3) := by decide +kernel
theorem dL_law_497 : decode cL_law 497 = .ok (.aload_n 2, 1) := by decide +kernel
theorem dL_law_498 : decode cL_law 498 = .ok (.aload_n 0, 1) := by decide +kernel
theorem dL_law_499 : decode cL_law 499 = .ok (.iload_n 3, 1) := by decide +kernel
theorem dL_law_500 : decode cL_law 500 = .ok (.iconst 1, 1) := by decide +kernel
theorem dL_law_501 : decode cL_law 501 = .ok (.iadd, 1) := by decide +kernel
theorem dL_law_502 : decode cL_law 502 = .ok (.iaload, 1) := by decide +kernel
theorem dL_law_503 : decode cL_law 503 = .ok (.invokevirtual 75, 3) := by decide +kernel
theorem dL_law_506 : decode cL_law 506 = .ok (.if_icmp .eq 437, 3) := by decide +kernel
theorem dL_law_509 : decode cL_law 509 = .ok (.iconst 0, 1) := by decide +kernel
theorem dL_law_510 : decode cL_law 510 = .ok (.ireturn, 1) := by decide +kernel
theorem dL_law_511 : decode cL_law 511 = .ok (.aload_n 1, 1) := by decide +kernel
theorem dL_law_512 : decode cL_law 512 = .ok (.aload_n 0, 1) := by decide +kernel
theorem dL_law_513 : decode cL_law 513 = .ok (.iload_n 3, 1) := by decide +kernel
theorem dL_law_514 : decode cL_law 514 = .ok (.iconst 1, 1) := by decide +kernel
theorem dL_law_515 : decode cL_law 515 = .ok (.iadd, 1) := by decide +kernel
theorem dL_law_516 : decode cL_law 516 = .ok (.iaload, 1) := by decide +kernel
theorem dL_law_517 : decode cL_law 517 = .ok (.invokevirtual 76, 3) := by decide +kernel
theorem dL_law_520 : decode cL_law 520 = .ok (.aload_n 2, 1) := by decide +kernel
theorem dL_law_521 : decode cL_law 521 = .ok (.aload_n 0, 1) := by decide +kernel
theorem dL_law_522 : decode cL_law 522 = .ok (.iload_n 3, 1) := by decide +kernel
theorem dL_law_523 : decode cL_law 523 = .ok (.iconst 1, 1) := by decide +kernel
theorem dL_law_524 : decode cL_law 524 = .ok (.iadd, 1) := by decide +kernel
theorem dL_law_525 : decode cL_law 525 = .ok (.iaload, 1) := by decide +kernel
theorem dL_law_526 : decode cL_law 526 = .ok (.invokevirtual 79, 3) := by decide +kernel
theorem dL_law_529 : decode cL_law 529 = .ok (.if_icmp .eq 414, 3) := by decide +kernel
theorem dL_law_532 : decode cL_law 532 = .ok (.iconst 0, 1) := by decide +kernel
theorem dL_law_533 : decode cL_law 533 = .ok (.ireturn, 1) := by decide +kernel
theorem dL_law_534 : decode cL_law 534 = .ok (.aload_n 1, 1) := by decide +kernel
theorem dL_law_535 : decode cL_law 535 = .ok (.aload_n 0, 1) := by decide +kernel
theorem dL_law_536 : decode cL_law 536 = .ok (.iload_n 3, 1) := by decide +kernel
theorem dL_law_537 : decode cL_law 537 = .ok (.iconst 1, 1) := by decide +kernel
theorem dL_law_538 : decode cL_law 538 = .ok (.iadd, 1) := by decide +kernel
theorem dL_law_539 : decode cL_law 539 = .ok (.iaload, 1) := by decide +kernel
theorem dL_law_540 : decode cL_law 540 = .ok (.aload_n 0, 1) := by decide +kernel
theorem dL_law_541 : decode cL_law 541 = .ok (.iload_n 3, 1) := by decide +kernel
theorem dL_law_542 : decode cL_law 542 = .ok (.iconst 2, 1) := by decide +kernel
theorem dL_law_543 : decode cL_law 543 = .ok (.iadd, 1) := by decide +kernel
theorem dL_law_544 : decode cL_law 544 = .ok (.iaload, 1) := by decide +kernel
theorem dL_law_545 : decode cL_law 545 = .ok (.invokevirtual 80, 3) := by decide +kernel
theorem dL_law_548 : decode cL_law 548 = .ok (.aload_n 2, 1) := by decide +kernel
theorem dL_law_549 : decode cL_law 549 = .ok (.aload_n 0, 1) := by decide +kernel
theorem dL_law_550 : decode cL_law 550 = .ok (.iload_n 3, 1) := by decide +kernel
theorem dL_law_551 : decode cL_law 551 = .ok (.iconst 1, 1) := by decide +kernel
theorem dL_law_552 : decode cL_law 552 = .ok (.iadd, 1) := by decide +kernel
theorem dL_law_553 : decode cL_law 553 = .ok (.iaload, 1) := by decide +kernel
theorem dL_law_554 : decode cL_law 554 = .ok (.aload_n 0, 1) := by decide +kernel
theorem dL_law_555 : decode cL_law 555 = .ok (.iload_n 3, 1) := by decide +kernel
theorem dL_law_556 : decode cL_law 556 = .ok (.iconst 2, 1) := by decide +kernel
theorem dL_law_557 : decode cL_law 557 = .ok (.iadd, 1) := by decide +kernel
theorem dL_law_558 : decode cL_law 558 = .ok (.iaload, 1) := by decide +kernel
theorem dL_law_559 : decode cL_law 559 = .ok (.invokevirtual 83, 3) := by decide +kernel
theorem dL_law_562 : decode cL_law 562 = .ok (.if_icmp .eq 381, 3) := by decide +kernel
theorem dL_law_565 : decode cL_law 565 = .ok (.iconst 0, 1) := by decide +kernel
theorem dL_law_566 : decode cL_law 566 = .ok (.ireturn, 1) := by decide +kernel
theorem dL_law_567 : decode cL_law 567 = .ok (.aload_n 1, 1) := by decide +kernel
theorem dL_law_568 : decode cL_law 568 = .ok (.aload_n 0, 1) := by decide +kernel
theorem dL_law_569 : decode cL_law 569 = .ok (.iload_n 3, 1) := by decide +kernel
theorem dL_law_570 : decode cL_law 570 = .ok (.iconst 1, 1) := by decide +kernel
theorem dL_law_571 : decode cL_law 571 = .ok (.iadd, 1) := by decide +kernel
theorem dL_law_572 : decode cL_law 572 = .ok (.iaload, 1) := by decide +kernel
theorem dL_law_573 : decode cL_law 573 = .ok (.invokevirtual 84, 3) := by decide +kernel
theorem dL_law_576 : decode cL_law 576 = .ok (.aload_n 2, 1) := by decide +kernel
theorem dL_law_577 : decode cL_law 577 = .ok (.aload_n 0, 1) := by decide +kernel
theorem dL_law_578 : decode cL_law 578 = .ok (.iload_n 3, 1) := by decide +kernel
theorem dL_law_579 : decode cL_law 579 = .ok (.iconst 1, 1) := by decide +kernel
theorem dL_law_580 : decode cL_law 580 = .ok (.iadd, 1) := by decide +kernel
theorem dL_law_581 : decode cL_law 581 = .ok (.iaload, 1) := by decide +kernel
theorem dL_law_582 : decode cL_law 582 = .ok (.invokevirtual 87, 3) := by decide +kernel
theorem dL_law_585 : decode cL_law 585 = .ok (.if_icmp .eq 358, 3) := by decide +kernel
theorem dL_law_588 : decode cL_law 588 = .ok (.iconst 0, 1) := by decide +kernel
theorem dL_law_589 : decode cL_law 589 = .ok (.ireturn, 1) := by decide +kernel
theorem dL_law_590 : decode cL_law 590 = .ok (.aload_n 1, 1) := by decide +kernel
theorem dL_law_591 : decode cL_law 591 = .ok (.invokevirtual 88, 3) := by decide +kernel
theorem dL_law_594 : decode cL_law 594 = .ok (.aload_n 2, 1) := by decide +kernel
theorem dL_law_595 : decode cL_law 595 = .ok (.invokevirtual 91, 3) := by decide +kernel
theorem dL_law_598 : decode cL_law 598 = .ok (.if_icmp .eq 345, 3) := by decide +kernel
theorem dL_law_601 : decode cL_law 601 = .ok (.iconst 0, 1) := by decide +kernel
theorem dL_law_602 : decode cL_law 602 = .ok (.ireturn, 1) := by decide +kernel
theorem dL_law_603 : decode cL_law 603 = .ok (.aload_n 1, 1) := by decide +kernel
theorem dL_law_604 : decode cL_law 604 = .ok (.aload_n 0, 1) := by decide +kernel
theorem dL_law_605 : decode cL_law 605 = .ok (.iload_n 3, 1) := by decide +kernel
theorem dL_law_606 : decode cL_law 606 = .ok (.iconst 1, 1) := by decide +kernel
theorem dL_law_607 : decode cL_law 607 = .ok (.iadd, 1) := by decide +kernel
theorem dL_law_608 : decode cL_law 608 = .ok (.iaload, 1) := by decide +kernel
theorem dL_law_609 : decode cL_law 609 = .ok (.invokevirtual 92, 3) := by decide +kernel
theorem dL_law_612 : decode cL_law 612 = .ok (.aload_n 2, 1) := by decide +kernel
theorem dL_law_613 : decode cL_law 613 = .ok (.aload_n 0, 1) := by decide +kernel
theorem dL_law_614 : decode cL_law 614 = .ok (.iload_n 3, 1) := by decide +kernel
theorem dL_law_615 : decode cL_law 615 = .ok (.iconst 1, 1) := by decide +kernel
theorem dL_law_616 : decode cL_law 616 = .ok (.iadd, 1) := by decide +kernel
theorem dL_law_617 : decode cL_law 617 = .ok (.iaload, 1) := by decide +kernel
theorem dL_law_618 : decode cL_law 618 = .ok (.invokevirtual 95, 3) := by decide +kernel
theorem dL_law_621 : decode cL_law 621 = .ok (.if_icmp .eq 322, 3) := by decide +kernel
theorem dL_law_624 : decode cL_law 624 = .ok (.iconst 0, 1) := by decide +kernel
theorem dL_law_625 : decode cL_law 625 = .ok (.ireturn, 1) := by decide +kernel
theorem dL_law_626 : decode cL_law 626 = .ok (.aload_n 1, 1) := by decide +kernel
theorem dL_law_627 : decode cL_law 627 = .ok (.aload_n 0, 1) := by decide +kernel
theorem dL_law_628 : decode cL_law 628 = .ok (.iload_n 3, 1) := by decide +kernel
theorem dL_law_629 : decode cL_law 629 = .ok (.iconst 1, 1) := by decide +kernel
theorem dL_law_630 : decode cL_law 630 = .ok (.iadd, 1) := by decide +kernel
theorem dL_law_631 : decode cL_law 631 = .ok (.iaload, 1) := by decide +kernel
theorem dL_law_632 : decode cL_law 632 = .ok (.invokevirtual 96, 3) := by decide +kernel
theorem dL_law_635 : decode cL_law 635 = .ok (.aload_n 2, 1) := by decide +kernel
theorem dL_law_636 : decode cL_law 636 = .ok (.aload_n 0, 1) := by decide +kernel
theorem dL_law_637 : decode cL_law 637 = .ok (.iload_n 3, 1) := by decide +kernel
theorem dL_law_638 : decode cL_law 638 = .ok (.iconst 1, 1) := by decide +kernel
theorem dL_law_639 : decode cL_law 639 = .ok (.iadd, 1) := by decide +kernel
theorem dL_law_640 : decode cL_law 640 = .ok (.iaload, 1) := by decide +kernel
theorem dL_law_641 : decode cL_law 641 = .ok (.invokevirtual 99, 3) := by decide +kernel
theorem dL_law_644 : decode cL_law 644 = .ok (.if_icmp .eq 299, 3) := by decide +kernel
theorem dL_law_647 : decode cL_law 647 = .ok (.iconst 0, 1) := by decide +kernel
theorem dL_law_648 : decode cL_law 648 = .ok (.ireturn, 1) := by decide +kernel
theorem dL_law_649 : decode cL_law 649 = .ok (.aload_n 1, 1) := by decide +kernel
theorem dL_law_650 : decode cL_law 650 = .ok (.invokevirtual 100, 3) := by decide +kernel
theorem dL_law_653 : decode cL_law 653 = .ok (.aload_n 2, 1) := by decide +kernel
theorem dL_law_654 : decode cL_law 654 = .ok (.invokevirtual 103, 3) := by decide +kernel
theorem dL_law_657 : decode cL_law 657 = .ok (.if_icmp .eq 286, 3) := by decide +kernel
theorem dL_law_660 : decode cL_law 660 = .ok (.iconst 0, 1) := by decide +kernel
theorem dL_law_661 : decode cL_law 661 = .ok (.ireturn, 1) := by decide +kernel
theorem dL_law_662 : decode cL_law 662 = .ok (.aload_n 1, 1) := by decide +kernel
theorem dL_law_663 : decode cL_law 663 = .ok (.aload_n 0, 1) := by decide +kernel
theorem dL_law_664 : decode cL_law 664 = .ok (.iload_n 3, 1) := by decide +kernel
theorem dL_law_665 : decode cL_law 665 = .ok (.iconst 1, 1) := by decide +kernel
theorem dL_law_666 : decode cL_law 666 = .ok (.iadd, 1) := by decide +kernel
theorem dL_law_667 : decode cL_law 667 = .ok (.iaload, 1) := by decide +kernel
theorem dL_law_668 : decode cL_law 668 = .ok (.invokevirtual 104, 3) := by decide +kernel
theorem dL_law_671 : decode cL_law 671 = .ok (.aload_n 2, 1) := by decide +kernel
theorem dL_law_672 : decode cL_law 672 = .ok (.aload_n 0, 1) := by decide +kernel
theorem dL_law_673 : decode cL_law 673 = .ok (.iload_n 3, 1) := by decide +kernel
theorem dL_law_674 : decode cL_law 674 = .ok (.iconst 1, 1) := by decide +kernel
theorem dL_law_675 : decode cL_law 675 = .ok (.iadd, 1) := by decide +kernel
theorem dL_law_676 : decode cL_law 676 = .ok (.iaload, 1) := by decide +kernel
theorem dL_law_677 : decode cL_law 677 = .ok (.invokevirtual 107, 3) := by decide +kernel
theorem dL_law_680 : decode cL_law 680 = .ok (.if_icmp .eq 263, 3) := by decide +kernel
theorem dL_law_683 : decode cL_law 683 = .ok (.iconst 0, 1) := by decide +kernel
theorem dL_law_684 : decode cL_law 684 = .ok (.ireturn, 1) := by decide +kernel
theorem dL_law_685 : decode cL_law 685 = .ok (.aload_n 1, 1) := by decide +kernel
theorem dL_law_686 : decode cL_law 686 = .ok (.aload_n 0, 1) := by decide +kernel
theorem dL_law_687 : decode cL_law 687 = .ok (.iload_n 3, 1) := by decide +kernel
theorem dL_law_688 : decode cL_law 688 = .ok (.iconst 1, 1) := by decide +kernel
theorem dL_law_689 : decode cL_law 689 = .ok (.iadd, 1) := by decide +kernel
theorem dL_law_690 : decode cL_law 690 = .ok (.iaload, 1) := by decide +kernel
theorem dL_law_691 : decode cL_law 691 = .ok (.invokevirtual 108, 3) := by decide +kernel
theorem dL_law_694 : decode cL_law 694 = .ok (.aload_n 2, 1) := by decide +kernel
theorem dL_law_695 : decode cL_law 695 = .ok (.aload_n 0, 1) := by decide +kernel
theorem dL_law_696 : decode cL_law 696 = .ok (.iload_n 3, 1) := by decide +kernel
theorem dL_law_697 : decode cL_law 697 = .ok (.iconst 1, 1) := by decide +kernel
theorem dL_law_698 : decode cL_law 698 = .ok (.iadd, 1) := by decide +kernel
theorem dL_law_699 : decode cL_law 699 = .ok (.iaload, 1) := by decide +kernel
theorem dL_law_700 : decode cL_law 700 = .ok (.invokevirtual 111, 3) := by decide +kernel
theorem dL_law_703 : decode cL_law 703 = .ok (.if_icmp .eq 240, 3) := by decide +kernel
theorem dL_law_706 : decode cL_law 706 = .ok (.iconst 0, 1) := by decide +kernel
theorem dL_law_707 : decode cL_law 707 = .ok (.ireturn, 1) := by decide +kernel
theorem dL_law_708 : decode cL_law 708 = .ok (.aload_n 1, 1) := by decide +kernel
theorem dL_law_709 : decode cL_law 709 = .ok (.aload_n 0, 1) := by decide +kernel
theorem dL_law_710 : decode cL_law 710 = .ok (.iload_n 3, 1) := by decide +kernel
theorem dL_law_711 : decode cL_law 711 = .ok (.iconst 1, 1) := by decide +kernel
theorem dL_law_712 : decode cL_law 712 = .ok (.iadd, 1) := by decide +kernel
theorem dL_law_713 : decode cL_law 713 = .ok (.iaload, 1) := by decide +kernel
theorem dL_law_714 : decode cL_law 714 = .ok (.invokevirtual 112, 3) := by decide +kernel
theorem dL_law_717 : decode cL_law 717 = .ok (.aload_n 2, 1) := by decide +kernel
theorem dL_law_718 : decode cL_law 718 = .ok (.aload_n 0, 1) := by decide +kernel
theorem dL_law_719 : decode cL_law 719 = .ok (.iload_n 3, 1) := by decide +kernel
theorem dL_law_720 : decode cL_law 720 = .ok (.iconst 1, 1) := by decide +kernel
theorem dL_law_721 : decode cL_law 721 = .ok (.iadd, 1) := by decide +kernel
theorem dL_law_722 : decode cL_law 722 = .ok (.iaload, 1) := by decide +kernel
theorem dL_law_723 : decode cL_law 723 = .ok (.invokevirtual 115, 3) := by decide +kernel
theorem dL_law_726 : decode cL_law 726 = .ok (.if_icmp .eq 217, 3) := by decide +kernel
theorem dL_law_729 : decode cL_law 729 = .ok (.iconst 0, 1) := by decide +kernel
theorem dL_law_730 : decode cL_law 730 = .ok (.ireturn, 1) := by decide +kernel
theorem dL_law_731 : decode cL_law 731 = .ok (.aload_n 1, 1) := by decide +kernel
theorem dL_law_732 : decode cL_law 732 = .ok (.aload_n 0, 1) := by decide +kernel
theorem dL_law_733 : decode cL_law 733 = .ok (.iload_n 3, 1) := by decide +kernel
theorem dL_law_734 : decode cL_law 734 = .ok (.iconst 1, 1) := by decide +kernel
theorem dL_law_735 : decode cL_law 735 = .ok (.iadd, 1) := by decide +kernel
theorem dL_law_736 : decode cL_law 736 = .ok (.iaload, 1) := by decide +kernel
theorem dL_law_737 : decode cL_law 737 = .ok (.invokevirtual 116, 3) := by decide +kernel
theorem dL_law_740 : decode cL_law 740 = .ok (.aload_n 2, 1) := by decide +kernel
theorem dL_law_741 : decode cL_law 741 = .ok (.aload_n 0, 1) := by decide +kernel
theorem dL_law_742 : decode cL_law 742 = .ok (.iload_n 3, 1) := by decide +kernel
theorem dL_law_743 : decode cL_law 743 = .ok (.iconst 1, 1) := by decide +kernel
theorem dL_law_744 : decode cL_law 744 = .ok (.iadd, 1) := by decide +kernel
theorem dL_law_745 : decode cL_law 745 = .ok (.iaload, 1) := by decide +kernel
theorem dL_law_746 : decode cL_law 746 = .ok (.invokevirtual 119, 3) := by decide +kernel
theorem dL_law_749 : decode cL_law 749 = .ok (.if_icmp .eq 194, 3) := by decide +kernel
theorem dL_law_752 : decode cL_law 752 = .ok (.iconst 0, 1) := by decide +kernel
theorem dL_law_753 : decode cL_law 753 = .ok (.ireturn, 1) := by decide +kernel
theorem dL_law_754 : decode cL_law 754 = .ok (.aload_n 1, 1) := by decide +kernel
theorem dL_law_755 : decode cL_law 755 = .ok (.aload_n 0, 1) := by decide +kernel
theorem dL_law_756 : decode cL_law 756 = .ok (.iload_n 3, 1) := by decide +kernel
theorem dL_law_757 : decode cL_law 757 = .ok (.iconst 1, 1) := by decide +kernel
theorem dL_law_758 : decode cL_law 758 = .ok (.iadd, 1) := by decide +kernel
theorem dL_law_759 : decode cL_law 759 = .ok (.iaload, 1) := by decide +kernel
theorem dL_law_760 : decode cL_law 760 = .ok (.aload_n 0, 1) := by decide +kernel
theorem dL_law_761 : decode cL_law 761 = .ok (.iload_n 3, 1) := by decide +kernel
theorem dL_law_762 : decode cL_law 762 = .ok (.iconst 2, 1) := by decide +kernel
theorem dL_law_763 : decode cL_law 763 = .ok (.iadd, 1) := by decide +kernel
theorem dL_law_764 : decode cL_law 764 = .ok (.iaload, 1) := by decide +kernel
theorem dL_law_765 : decode cL_law 765 = .ok (.aload_n 0, 1) := by decide +kernel
theorem dL_law_766 : decode cL_law 766 = .ok (.iload_n 3, 1) := by decide +kernel
theorem dL_law_767 : decode cL_law 767 = .ok (.iconst 3, 1) := by decide +kernel
theorem dL_law_768 : decode cL_law 768 = .ok (.iadd, 1) := by decide +kernel
theorem dL_law_769 : decode cL_law 769 = .ok (.iaload, 1) := by decide +kernel
theorem dL_law_770 : decode cL_law 770 = .ok (.invokevirtual 120, 3) := by decide +kernel
theorem dL_law_773 : decode cL_law 773 = .ok (.aload_n 2, 1) := by decide +kernel
theorem dL_law_774 : decode cL_law 774 = .ok (.aload_n 0, 1) := by decide +kernel
theorem dL_law_775 : decode cL_law 775 = .ok (.iload_n 3, 1) := by decide +kernel
theorem dL_law_776 : decode cL_law 776 = .ok (.iconst 1, 1) := by decide +kernel
theorem dL_law_777 : decode cL_law 777 = .ok (.iadd, 1) := by decide +kernel
theorem dL_law_778 : decode cL_law 778 = .ok (.iaload, 1) := by decide +kernel
theorem dL_law_779 : decode cL_law 779 = .ok (.aload_n 0, 1) := by decide +kernel
theorem dL_law_780 : decode cL_law 780 = .ok (.iload_n 3, 1) := by decide +kernel
theorem dL_law_781 : decode cL_law 781 = .ok (.iconst 2, 1) := by decide +kernel
theorem dL_law_782 : decode cL_law 782 = .ok (.iadd, 1) := by decide +kernel
theorem dL_law_783 : decode cL_law 783 = .ok (.iaload, 1) := by decide +kernel
theorem dL_law_784 : decode cL_law 784 = .ok (.aload_n 0, 1) := by decide +kernel
theorem dL_law_785 : decode cL_law 785 = .ok (.iload_n 3, 1) := by decide +kernel
theorem dL_law_786 : decode cL_law 786 = .ok (.iconst 3, 1) := by decide +kernel
theorem dL_law_787 : decode cL_law 787 = .ok (.iadd, 1) := by decide +kernel
theorem dL_law_788 : decode cL_law 788 = .ok (.iaload, 1) := by decide +kernel
theorem dL_law_789 : decode cL_law 789 = .ok (.invokevirtual 124, 3) := by decide +kernel
theorem dL_law_792 : decode cL_law 792 = .ok (.if_icmp .eq 151, 3) := by decide +kernel
theorem dL_law_795 : decode cL_law 795 = .ok (.iconst 0, 1) := by decide +kernel
theorem dL_law_796 : decode cL_law 796 = .ok (.ireturn, 1) := by decide +kernel
theorem dL_law_797 : decode cL_law 797 = .ok (.aload_n 1, 1) := by decide +kernel
theorem dL_law_798 : decode cL_law 798 = .ok (.invokevirtual 125, 3) := by decide +kernel
theorem dL_law_801 : decode cL_law 801 = .ok (.aload_n 2, 1) := by decide +kernel
theorem dL_law_802 : decode cL_law 802 = .ok (.invokevirtual 128, 3) := by decide +kernel
theorem dL_law_805 : decode cL_law 805 = .ok (.if_icmp .eq 138, 3) := by decide +kernel
theorem dL_law_808 : decode cL_law 808 = .ok (.iconst 0, 1) := by decide +kernel
theorem dL_law_809 : decode cL_law 809 = .ok (.ireturn, 1) := by decide +kernel
theorem dL_law_810 : decode cL_law 810 = .ok (.aload_n 1, 1) := by decide +kernel
theorem dL_law_811 : decode cL_law 811 = .ok (.aload_n 0, 1) := by decide +kernel
theorem dL_law_812 : decode cL_law 812 = .ok (.iload_n 3, 1) := by decide +kernel
theorem dL_law_813 : decode cL_law 813 = .ok (.iconst 1, 1) := by decide +kernel
theorem dL_law_814 : decode cL_law 814 = .ok (.iadd, 1) := by decide +kernel
theorem dL_law_815 : decode cL_law 815 = .ok (.iaload, 1) := by decide +kernel
theorem dL_law_816 : decode cL_law 816 = .ok (.invokevirtual 129, 3) := by decide +kernel
theorem dL_law_819 : decode cL_law 819 = .ok (.aload_n 2, 1) := by decide +kernel
theorem dL_law_820 : decode cL_law 820 = .ok (.aload_n 0, 1) := by decide +kernel
theorem dL_law_821 : decode cL_law 821 = .ok (.iload_n 3, 1) := by decide +kernel
theorem dL_law_822 : decode cL_law 822 = .ok (.iconst 1, 1) := by decide +kernel
theorem dL_law_823 : decode cL_law 823 = .ok (.iadd, 1) := by decide +kernel
theorem dL_law_824 : decode cL_law 824 = .ok (.iaload, 1) := by decide +kernel
theorem dL_law_825 : decode cL_law 825 = .ok (.invokevirtual 132, 3) := by decide +kernel
theorem dL_law_828 : decode cL_law 828 = .ok (.if_icmp .eq 115, 3) := by decide +kernel
theorem dL_law_831 : decode cL_law 831 = .ok (.iconst 0, 1) := by decide +kernel
theorem dL_law_832 : decode cL_law 832 = .ok (.ireturn, 1) := by decide +kernel
theorem dL_law_833 : decode cL_law 833 = .ok (.aload_n 1, 1) := by decide +kernel
theorem dL_law_834 : decode cL_law 834 = .ok (.aload_n 0, 1) := by decide +kernel
theorem dL_law_835 : decode cL_law 835 = .ok (.iload_n 3, 1) := by decide +kernel
theorem dL_law_836 : decode cL_law 836 = .ok (.iconst 1, 1) := by decide +kernel
theorem dL_law_837 : decode cL_law 837 = .ok (.iadd, 1) := by decide +kernel
theorem dL_law_838 : decode cL_law 838 = .ok (.iaload, 1) := by decide +kernel
theorem dL_law_839 : decode cL_law 839 = .ok (.aload_n 0, 1) := by decide +kernel
theorem dL_law_840 : decode cL_law 840 = .ok (.iload_n 3, 1) := by decide +kernel
theorem dL_law_841 : decode cL_law 841 = .ok (.iconst 2, 1) := by decide +kernel
theorem dL_law_842 : decode cL_law 842 = .ok (.iadd, 1) := by decide +kernel
theorem dL_law_843 : decode cL_law 843 = .ok (.iaload, 1) := by decide +kernel
theorem dL_law_844 : decode cL_law 844 = .ok (.invokevirtual 133, 3) := by decide +kernel
theorem dL_law_847 : decode cL_law 847 = .ok (.aload_n 2, 1) := by decide +kernel
theorem dL_law_848 : decode cL_law 848 = .ok (.aload_n 0, 1) := by decide +kernel
theorem dL_law_849 : decode cL_law 849 = .ok (.iload_n 3, 1) := by decide +kernel
theorem dL_law_850 : decode cL_law 850 = .ok (.iconst 1, 1) := by decide +kernel
theorem dL_law_851 : decode cL_law 851 = .ok (.iadd, 1) := by decide +kernel
theorem dL_law_852 : decode cL_law 852 = .ok (.iaload, 1) := by decide +kernel
theorem dL_law_853 : decode cL_law 853 = .ok (.aload_n 0, 1) := by decide +kernel
theorem dL_law_854 : decode cL_law 854 = .ok (.iload_n 3, 1) := by decide +kernel
theorem dL_law_855 : decode cL_law 855 = .ok (.iconst 2, 1) := by decide +kernel
theorem dL_law_856 : decode cL_law 856 = .ok (.iadd, 1) := by decide +kernel
theorem dL_law_857 : decode cL_law 857 = .ok (.iaload, 1) := by decide +kernel
theorem dL_law_858 : decode cL_law 858 = .ok (.invokevirtual 136, 3) := by decide +kernel
theorem dL_law_861 : decode cL_law 861 = .ok (.if_icmp .eq 82, 3) := by decide +kernel
theorem dL_law_864 : decode cL_law 864 = .ok (.iconst 0, 1) := by decide +kernel
theorem dL_law_865 : decode cL_law 865 = .ok (.ireturn, 1) := by decide +kernel
theorem dL_law_866 : decode cL_law 866 = .ok (.aload_n 1, 1) := by decide +kernel
theorem dL_law_867 : decode cL_law 867 = .ok (.aload_n 0, 1) := by decide +kernel
theorem dL_law_868 : decode cL_law 868 = .ok (.iload_n 3, 1) := by decide +kernel
theorem dL_law_869 : decode cL_law 869 = .ok (.iconst 1, 1) := by decide +kernel
theorem dL_law_870 : decode cL_law 870 = .ok (.iadd, 1) := by decide +kernel
theorem dL_law_871 : decode cL_law 871 = .ok (.iaload, 1) := by decide +kernel
theorem dL_law_872 : decode cL_law 872 = .ok (.aload_n 0, 1) := by decide +kernel
theorem dL_law_873 : decode cL_law 873 = .ok (.iload_n 3, 1) := by decide +kernel
theorem dL_law_874 : decode cL_law 874 = .ok (.iconst 2, 1) := by decide +kernel
theorem dL_law_875 : decode cL_law 875 = .ok (.iadd, 1) := by decide +kernel
theorem dL_law_876 : decode cL_law 876 = .ok (.iaload, 1) := by decide +kernel
theorem dL_law_877 : decode cL_law 877 = .ok (.aload_n 0, 1) := by decide +kernel
theorem dL_law_878 : decode cL_law 878 = .ok (.iload_n 3, 1) := by decide +kernel
theorem dL_law_879 : decode cL_law 879 = .ok (.iconst 3, 1) := by decide +kernel
theorem dL_law_880 : decode cL_law 880 = .ok (.iadd, 1) := by decide +kernel
theorem dL_law_881 : decode cL_law 881 = .ok (.iaload, 1) := by decide +kernel
theorem dL_law_882 : decode cL_law 882 = .ok (.aload_n 0, 1) := by decide +kernel
theorem dL_law_883 : decode cL_law 883 = .ok (.iload_n 3, 1) := by decide +kernel
theorem dL_law_884 : decode cL_law 884 = .ok (.iconst 4, 1) := by decide +kernel
theorem dL_law_885 : decode cL_law 885 = .ok (.iadd, 1) := by decide +kernel
theorem dL_law_886 : decode cL_law 886 = .ok (.iaload, 1) := by decide +kernel
theorem dL_law_887 : decode cL_law 887 = .ok (.invokevirtual 137, 3) := by decide +kernel
theorem dL_law_890 : decode cL_law 890 = .ok (.aload_n 2, 1) := by decide +kernel
theorem dL_law_891 : decode cL_law 891 = .ok (.aload_n 0, 1) := by decide +kernel
theorem dL_law_892 : decode cL_law 892 = .ok (.iload_n 3, 1) := by decide +kernel
theorem dL_law_893 : decode cL_law 893 = .ok (.iconst 1, 1) := by decide +kernel
theorem dL_law_894 : decode cL_law 894 = .ok (.iadd, 1) := by decide +kernel
theorem dL_law_895 : decode cL_law 895 = .ok (.iaload, 1) := by decide +kernel
theorem dL_law_896 : decode cL_law 896 = .ok (.aload_n 0, 1) := by decide +kernel
theorem dL_law_897 : decode cL_law 897 = .ok (.iload_n 3, 1) := by decide +kernel
theorem dL_law_898 : decode cL_law 898 = .ok (.iconst 2, 1) := by decide +kernel
theorem dL_law_899 : decode cL_law 899 = .ok (.iadd, 1) := by decide +kernel
theorem dL_law_900 : decode cL_law 900 = .ok (.iaload, 1) := by decide +kernel
theorem dL_law_901 : decode cL_law 901 = .ok (.aload_n 0, 1) := by decide +kernel
theorem dL_law_902 : decode cL_law 902 = .ok (.iload_n 3, 1) := by decide +kernel
theorem dL_law_903 : decode cL_law 903 = .ok (.iconst 3, 1) := by decide +kernel
theorem dL_law_904 : decode cL_law 904 = .ok (.iadd, 1) := by decide +kernel
theorem dL_law_905 : decode cL_law 905 = .ok (.iaload, 1) := by decide +kernel
theorem dL_law_906 : decode cL_law 906 = .ok (.aload_n 0, 1) := by decide +kernel
theorem dL_law_907 : decode cL_law 907 = .ok (.iload_n 3, 1) := by decide +kernel
theorem dL_law_908 : decode cL_law 908 = .ok (.iconst 4, 1) := by decide +kernel
theorem dL_law_909 : decode cL_law 909 = .ok (.iadd, 1) := by decide +kernel
theorem dL_law_910 : decode cL_law 910 = .ok (.iaload, 1) := by decide +kernel
theorem dL_law_911 : decode cL_law 911 = .ok (.invokevirtual 141, 3) := by decide +kernel
theorem dL_law_914 : decode cL_law 914 = .ok (.lcmp, 1) := by decide +kernel
theorem dL_law_915 : decode cL_law 915 = .ok (.ifCond .eq 28, 3) := by decide +kernel
theorem dL_law_918 : decode cL_law 918 = .ok (.iconst 0, 1) := by decide +kernel
theorem dL_law_919 : decode cL_law 919 = .ok (.ireturn, 1) := by decide +kernel
theorem dL_law_920 : decode cL_law 920 = .ok (.aload_n 1, 1) := by decide +kernel
theorem dL_law_921 : decode cL_law 921 = .ok (.aload_n 0, 1) := by decide +kernel
theorem dL_law_922 : decode cL_law 922 = .ok (.iload_n 3, 1) := by decide +kernel
theorem dL_law_923 : decode cL_law 923 = .ok (.iconst 1, 1) := by decide +kernel
theorem dL_law_924 : decode cL_law 924 = .ok (.iadd, 1) := by decide +kernel
theorem dL_law_925 : decode cL_law 925 = .ok (.iaload, 1) := by decide +kernel
theorem dL_law_926 : decode cL_law 926 = .ok (.invokevirtual 142, 3) := by decide +kernel
theorem dL_law_929 : decode cL_law 929 = .ok (.aload_n 2, 1) := by decide +kernel
theorem dL_law_930 : decode cL_law 930 = .ok (.aload_n 0, 1) := by decide +kernel
theorem dL_law_931 : decode cL_law 931 = .ok (.iload_n 3, 1) := by decide +kernel
theorem dL_law_932 : decode cL_law 932 = .ok (.iconst 1, 1) := by decide +kernel
theorem dL_law_933 : decode cL_law 933 = .ok (.iadd, 1) := by decide +kernel
theorem dL_law_934 : decode cL_law 934 = .ok (.iaload, 1) := by decide +kernel
theorem dL_law_935 : decode cL_law 935 = .ok (.invokevirtual 145, 3) := by decide +kernel
theorem dL_law_938 : decode cL_law 938 = .ok (.if_icmp .eq 5, 3) := by decide +kernel
theorem dL_law_941 : decode cL_law 941 = .ok (.iconst 0, 1) := by decide +kernel
theorem dL_law_942 : decode cL_law 942 = .ok (.ireturn, 1) := by decide +kernel
theorem dL_law_943 : decode cL_law 943 = .ok (.iinc 3 5, 3) := by decide +kernel
theorem dL_law_946 : decode cL_law 946 = .ok (.goto (-928), 3) := by decide +kernel
theorem dL_law_949 : decode cL_law 949 = .ok (.iconst 1, 1) := by decide +kernel
theorem dL_law_950 : decode cL_law 950 = .ok (.ireturn, 1) := by decide +kernel
theorem dJ0_length_8abf5_0 : decode cJ0_length_8abf5 0 = .ok (.aload_n 0, 1) := by decide +kernel
theorem dJ0_length_8abf5_1 : decode cJ0_length_8abf5 1 = .ok (.getfield 9, 3) := by decide +kernel
theorem dJ0_length_8abf5_4 : decode cJ0_length_8abf5 4 = .ok (.arraylength, 1) := by decide +kernel
theorem dJ0_length_8abf5_5 : decode cJ0_length_8abf5 5 = .ok (.aload_n 0, 1) := by decide +kernel
theorem dJ0_length_8abf5_6 : decode cJ0_length_8abf5 6 = .ok (.invokevirtual 335, 3) := by decide +kernel
theorem dJ0_length_8abf5_9 : decode cJ0_length_8abf5 9 = .ok (.ishr, 1) := by decide +kernel
theorem dJ0_length_8abf5_10 : decode cJ0_length_8abf5 10 = .ok (.ireturn, 1) := by decide +kernel
theorem dJ0_charAt_5068e_0 : decode cJ0_charAt_5068e 0 = .ok (.aload_n 0, 1) := by decide +kernel
theorem dJ0_charAt_5068e_1 : decode cJ0_charAt_5068e 1 = .ok (.invokevirtual 492, 3) := by decide +kernel
theorem dJ0_charAt_5068e_4 : decode cJ0_charAt_5068e 4 = .ok (.ifCond .eq 12, 3) := by decide +kernel
theorem dJ0_charAt_5068e_7 : decode cJ0_charAt_5068e 7 = .ok (.aload_n 0, 1) := by decide +kernel
theorem dJ0_charAt_5068e_8 : decode cJ0_charAt_5068e 8 = .ok (.getfield 9, 3) := by decide +kernel
theorem dJ0_charAt_5068e_11 : decode cJ0_charAt_5068e 11 = .ok (.iload_n 1, 1) := by decide +kernel
theorem dJ0_charAt_5068e_12 : decode cJ0_charAt_5068e 12 = .ok (.invokestatic 495, 3) := by decide +kernel
theorem dJ0_charAt_5068e_15 : decode cJ0_charAt_5068e 15 = .ok (.ireturn, 1) := by decide +kernel
theorem dJ0_charAt_5068e_16 : decode cJ0_charAt_5068e 16 = .ok (.aload_n 0, 1) := by decide +kernel
theorem dJ0_charAt_5068e_17 : decode cJ0_charAt_5068e 17 = .ok (.getfield 9, 3) := by decide +kernel
theorem dJ0_charAt_5068e_20 : decode cJ0_charAt_5068e 20 = .ok (.iload_n 1, 1) := by decide +kernel
theorem dJ0_charAt_5068e_21 : decode cJ0_charAt_5068e 21 = .ok (.invokestatic 498, 3) := by decide +kernel
theorem dJ0_charAt_5068e_24 : decode cJ0_charAt_5068e 24 = .ok (.ireturn, 1) := by decide +kernel
theorem dJ0_coder_7d493_0 : decode cJ0_coder_7d493 0 = .ok (.getstatic 38, 3) := by decide +kernel
theorem dJ0_coder_7d493_3 : decode cJ0_coder_7d493 3 = .ok (.ifCond .eq 10, 3) := by decide +kernel
theorem dJ0_coder_7d493_6 : decode cJ0_coder_7d493 6 = .ok (.aload_n 0, 1) := by decide +kernel
theorem dJ0_coder_7d493_7 : decode cJ0_coder_7d493 7 = .ok (.getfield 15, 3) := by decide +kernel
theorem dJ0_coder_7d493_10 : decode cJ0_coder_7d493 10 = .ok (.goto 4, 3) := by decide +kernel
theorem dJ0_coder_7d493_13 : decode cJ0_coder_7d493 13 = .ok (.iconst 1, 1) := by decide +kernel
theorem dJ0_coder_7d493_14 : decode cJ0_coder_7d493 14 = .ok (.ireturn, 1) := by decide +kernel
theorem dJ0_isLatin1_aae02_0 : decode cJ0_isLatin1_aae02 0 = .ok (.getstatic 38, 3) := by decide +kernel
theorem dJ0_isLatin1_aae02_3 : decode cJ0_isLatin1_aae02 3 = .ok (.ifCond .eq 14, 3) := by decide +kernel
theorem dJ0_isLatin1_aae02_6 : decode cJ0_isLatin1_aae02 6 = .ok (.aload_n 0, 1) := by decide +kernel
theorem dJ0_isLatin1_aae02_7 : decode cJ0_isLatin1_aae02 7 = .ok (.getfield 15, 3) := by decide +kernel
theorem dJ0_isLatin1_aae02_10 : decode cJ0_isLatin1_aae02 10 = .ok (.ifCond .ne 7, 3) := by decide +kernel
theorem dJ0_isLatin1_aae02_13 : decode cJ0_isLatin1_aae02 13 = .ok (.iconst 1, 1) := by decide +kernel
theorem dJ0_isLatin1_aae02_14 : decode cJ0_isLatin1_aae02 14 = .ok (.goto 4, 3) := by decide +kernel
theorem dJ0_isLatin1_aae02_17 : decode cJ0_isLatin1_aae02 17 = .ok (.iconst 0, 1) := by decide +kernel
theorem dJ0_isLatin1_aae02_18 : decode cJ0_isLatin1_aae02 18 = .ok (.ireturn, 1) := by decide +kernel
theorem dJ0_checkIndex_df160_0 : decode cJ0_checkIndex_df160 0 = .ok (.iload_n 0, 1) := by decide +kernel
theorem dJ0_checkIndex_df160_1 : decode cJ0_checkIndex_df160 1 = .ok (.iload_n 1, 1) := by decide +kernel
theorem dJ0_checkIndex_df160_2 : decode cJ0_checkIndex_df160 2 = .ok (.getstatic 1053, 3) := by decide +kernel
theorem dJ0_checkIndex_df160_5 : decode cJ0_checkIndex_df160 5 = .ok (.invokestatic 1059, 3) := by decide +kernel
theorem dJ0_checkIndex_df160_8 : decode cJ0_checkIndex_df160 8 = .ok (.pop, 1) := by decide +kernel
theorem dJ0_checkIndex_df160_9 : decode cJ0_checkIndex_df160 9 = .ok (.return_, 1) := by decide +kernel
theorem dJ1_charAt_3b067_0 : decode cJ1_charAt_3b067 0 = .ok (.iload_n 1, 1) := by decide +kernel
theorem dJ1_charAt_3b067_1 : decode cJ1_charAt_3b067 1 = .ok (.aload_n 0, 1) := by decide +kernel
theorem dJ1_charAt_3b067_2 : decode cJ1_charAt_3b067 2 = .ok (.arraylength, 1) := by decide +kernel
theorem dJ1_charAt_3b067_3 : decode cJ1_charAt_3b067 3 = .ok (.invokestatic 9, 3) := by decide +kernel
theorem dJ1_charAt_3b067_6 : decode cJ1_charAt_3b067 6 = .ok (.aload_n 0, 1) := by decide +kernel
theorem dJ1_charAt_3b067_7 : decode cJ1_charAt_3b067 7 = .ok (.iload_n 1, 1) := by decide +kernel
theorem dJ1_charAt_3b067_8 : decode cJ1_charAt_3b067 8 = .ok (.baload, 1) := by decide +kernel
theorem dJ1_charAt_3b067_9 : decode cJ1_charAt_3b067 9 = .ok (.sipush 255, 3) := by decide +kernel
theorem dJ1_charAt_3b067_12 : decode cJ1_charAt_3b067 12 = .ok (.iand, 1) := by decide +kernel
theorem dJ1_charAt_3b067_13 : decode cJ1_charAt_3b067 13 = .ok (.i2c, 1) := by decide +kernel
theorem dJ1_charAt_3b067_14 : decode cJ1_charAt_3b067 14 = .ok (.ireturn, 1) := by decide +kernel
theorem dJ6_bitCount_0f7a4_0 : decode cJ6_bitCount_0f7a4 0 = .ok (.iload_n 0, 1) := by decide +kernel
theorem dJ6_bitCount_0f7a4_1 : decode cJ6_bitCount_0f7a4 1 = .ok (.iload_n 0, 1) := by decide +kernel
theorem dJ6_bitCount_0f7a4_2 : decode cJ6_bitCount_0f7a4 2 = .ok (.iconst 1, 1) := by decide +kernel
theorem dJ6_bitCount_0f7a4_3 : decode cJ6_bitCount_0f7a4 3 = .ok (.iushr, 1) := by decide +kernel
theorem dJ6_bitCount_0f7a4_4 : decode cJ6_bitCount_0f7a4 4 = .ok (.ldc_w 265, 3) := by decide +kernel
theorem dJ6_bitCount_0f7a4_7 : decode cJ6_bitCount_0f7a4 7 = .ok (.iand, 1) := by decide +kernel
theorem dJ6_bitCount_0f7a4_8 : decode cJ6_bitCount_0f7a4 8 = .ok (.isub, 1) := by decide +kernel
theorem dJ6_bitCount_0f7a4_9 : decode cJ6_bitCount_0f7a4 9 = .ok (.istore_n 0, 1) := by decide +kernel
theorem dJ6_bitCount_0f7a4_10 : decode cJ6_bitCount_0f7a4 10 = .ok (.iload_n 0, 1) := by decide +kernel
theorem dJ6_bitCount_0f7a4_11 : decode cJ6_bitCount_0f7a4 11 = .ok (.ldc_w 266, 3) := by decide +kernel
theorem dJ6_bitCount_0f7a4_14 : decode cJ6_bitCount_0f7a4 14 = .ok (.iand, 1) := by decide +kernel
theorem dJ6_bitCount_0f7a4_15 : decode cJ6_bitCount_0f7a4 15 = .ok (.iload_n 0, 1) := by decide +kernel
theorem dJ6_bitCount_0f7a4_16 : decode cJ6_bitCount_0f7a4 16 = .ok (.iconst 2, 1) := by decide +kernel
theorem dJ6_bitCount_0f7a4_17 : decode cJ6_bitCount_0f7a4 17 = .ok (.iushr, 1) := by decide +kernel
theorem dJ6_bitCount_0f7a4_18 : decode cJ6_bitCount_0f7a4 18 = .ok (.ldc_w 266, 3) := by decide +kernel
theorem dJ6_bitCount_0f7a4_21 : decode cJ6_bitCount_0f7a4 21 = .ok (.iand, 1) := by decide +kernel
theorem dJ6_bitCount_0f7a4_22 : decode cJ6_bitCount_0f7a4 22 = .ok (.iadd, 1) := by decide +kernel
theorem dJ6_bitCount_0f7a4_23 : decode cJ6_bitCount_0f7a4 23 = .ok (.istore_n 0, 1) := by decide +kernel
theorem dJ6_bitCount_0f7a4_24 : decode cJ6_bitCount_0f7a4 24 = .ok (.iload_n 0, 1) := by decide +kernel
theorem dJ6_bitCount_0f7a4_25 : decode cJ6_bitCount_0f7a4 25 = .ok (.iload_n 0, 1) := by decide +kernel
theorem dJ6_bitCount_0f7a4_26 : decode cJ6_bitCount_0f7a4 26 = .ok (.iconst 4, 1) := by decide +kernel
theorem dJ6_bitCount_0f7a4_27 : decode cJ6_bitCount_0f7a4 27 = .ok (.iushr, 1) := by decide +kernel
theorem dJ6_bitCount_0f7a4_28 : decode cJ6_bitCount_0f7a4 28 = .ok (.iadd, 1) := by decide +kernel
theorem dJ6_bitCount_0f7a4_29 : decode cJ6_bitCount_0f7a4 29 = .ok (.ldc_w 267, 3) := by decide +kernel
theorem dJ6_bitCount_0f7a4_32 : decode cJ6_bitCount_0f7a4 32 = .ok (.iand, 1) := by decide +kernel
theorem dJ6_bitCount_0f7a4_33 : decode cJ6_bitCount_0f7a4 33 = .ok (.istore_n 0, 1) := by decide +kernel
theorem dJ6_bitCount_0f7a4_34 : decode cJ6_bitCount_0f7a4 34 = .ok (.iload_n 0, 1) := by decide +kernel
theorem dJ6_bitCount_0f7a4_35 : decode cJ6_bitCount_0f7a4 35 = .ok (.iload_n 0, 1) := by decide +kernel
theorem dJ6_bitCount_0f7a4_36 : decode cJ6_bitCount_0f7a4 36 = .ok (.bipush 8, 2) := by decide +kernel
theorem dJ6_bitCount_0f7a4_38 : decode cJ6_bitCount_0f7a4 38 = .ok (.iushr, 1) := by decide +kernel
theorem dJ6_bitCount_0f7a4_39 : decode cJ6_bitCount_0f7a4 39 = .ok (.iadd, 1) := by decide +kernel
theorem dJ6_bitCount_0f7a4_40 : decode cJ6_bitCount_0f7a4 40 = .ok (.istore_n 0, 1) := by decide +kernel
theorem dJ6_bitCount_0f7a4_41 : decode cJ6_bitCount_0f7a4 41 = .ok (.iload_n 0, 1) := by decide +kernel
theorem dJ6_bitCount_0f7a4_42 : decode cJ6_bitCount_0f7a4 42 = .ok (.iload_n 0, 1) := by decide +kernel
theorem dJ6_bitCount_0f7a4_43 : decode cJ6_bitCount_0f7a4 43 = .ok (.bipush 16, 2) := by decide +kernel
theorem dJ6_bitCount_0f7a4_45 : decode cJ6_bitCount_0f7a4 45 = .ok (.iushr, 1) := by decide +kernel
theorem dJ6_bitCount_0f7a4_46 : decode cJ6_bitCount_0f7a4 46 = .ok (.iadd, 1) := by decide +kernel
theorem dJ6_bitCount_0f7a4_47 : decode cJ6_bitCount_0f7a4 47 = .ok (.istore_n 0, 1) := by decide +kernel
theorem dJ6_bitCount_0f7a4_48 : decode cJ6_bitCount_0f7a4 48 = .ok (.iload_n 0, 1) := by decide +kernel
theorem dJ6_bitCount_0f7a4_49 : decode cJ6_bitCount_0f7a4 49 = .ok (.bipush 63, 2) := by decide +kernel
theorem dJ6_bitCount_0f7a4_51 : decode cJ6_bitCount_0f7a4 51 = .ok (.iand, 1) := by decide +kernel
theorem dJ6_bitCount_0f7a4_52 : decode cJ6_bitCount_0f7a4 52 = .ok (.ireturn, 1) := by decide +kernel
theorem dJ9_max_7cf53_0 : decode cJ9_max_7cf53 0 = .ok (.iload_n 0, 1) := by decide +kernel
theorem dJ9_max_7cf53_1 : decode cJ9_max_7cf53 1 = .ok (.iload_n 1, 1) := by decide +kernel
theorem dJ9_max_7cf53_2 : decode cJ9_max_7cf53 2 = .ok (.if_icmp .lt 7, 3) := by decide +kernel
theorem dJ9_max_7cf53_5 : decode cJ9_max_7cf53 5 = .ok (.iload_n 0, 1) := by decide +kernel
theorem dJ9_max_7cf53_6 : decode cJ9_max_7cf53 6 = .ok (.goto 4, 3) := by decide +kernel
theorem dJ9_max_7cf53_9 : decode cJ9_max_7cf53 9 = .ok (.iload_n 1, 1) := by decide +kernel
theorem dJ9_max_7cf53_10 : decode cJ9_max_7cf53 10 = .ok (.ireturn, 1) := by decide +kernel
end
section
/-! THE FRAME. The world of both objects is 52 cells (36 of GoldTouch, 16 of the reference), by their numbers:
0 GoldTouch; 1 court (2 kind 3 weight 4 worth 5 place 6 bears); 7 draft (8 .. 12); 13 text (14 letters 15 numbers); 16 day; 17 ahead; 18 past; 19 kept; 20 row; 21 planner (22 tools); 23 24 25 seen;
26 .. 33 the days of past, 34 35 of kept; 36 the reference (37 thing 38 bears 39 text 40 read 41 now 42 tried 43 image 44 isKept 45 backOf 46 row 47 tasks 48 sight 49 cost 50 last 51 tools).
60 KIND_ABOVE, 61 NUMBERS; 70 + i the word i, 90 + i its bytes; 110 the script. A memory is what the cells hold: cell, place. -/
def xg_tb : List Cond := lw_tbl.filter goodWord
theorem xg_tb_in {w : Cond} (h : w ∈ xg_tb) : w ∈ lw_tbl := (List.mem_filter.mp h).1
theorem xg_tb_good : ∀ w ∈ xg_tb, goodWord w = true := fun _ h => (List.mem_filter.mp h).2
abbrev xm_M : Type := (Nat → Nat → Int32) × Int64
def xm_set (σ : xm_M) (a k : Nat) (v : Int32) : xm_M := (fun b j => if b = a then (if j = k then v else σ.1 b j) else σ.1 b j, σ.2)
def xm_tok (σ : xm_M) (t : Int64) : xm_M := (σ.1, t)
def sh_cl (a : Nat) : Nat := if a = 0 then 4 else if a = 1 then 0 else if a = 7 then 0 else if a = 13 then 3 else if a = 16 then 1 else if a = 17 then 1 else if a = 21 then 2 else if a = 36 then 5 else if 26 ≤ a ∧ a ≤ 35 then 1 else 9
def sh_n (a : Nat) : Nat := [0, 0, 8, 8, 8, 8, 3, 0, 8, 8, 8, 8, 3, 0, 160, 3, 0, 0, 8, 2, 8, 0, 3, 6, 6, 6, 0, 0, 0, 0, 0, 0, 0, 0, 0, 0, 0, 32, 3, 160, 70, 12, 12, 24, 2, 96, 8, 4, 18, 32000, 32000, 3].getD a 0
def sh_t (a : Nat) : Nat := if a = 18 then 2 else if a = 19 then 2 else if a = 44 then 1 else 0
/-- the fields of an object: 0 an int, 1 the long, 2 + j the cell j -/
def sh_f (a : Nat) : List Nat := if a = 0 then [3, 9, 15, 18, 19, 20, 0, 21, 0, 22, 0, 0, 23, 25, 26, 27, 0] else if a = 1 then [4, 5, 6, 7, 8, 0, 0, 0, 0] else if a = 7 then [10, 11, 12, 13, 14, 0, 0, 0, 0] else if a = 13 then [16, 0, 0, 0, 0, 17]
  else if a = 21 then [0, 0, 0, 0, 24] else if a = 36 then [0, 39, 40, 0, 0, 0, 0, 41, 0, 0, 1, 0, 0, 0, 0, 0, 42, 43, 44, 45, 46, 47, 0, 48, 0, 49, 0, 50, 0, 51, 52, 53, 0] else [0, 0, 0, 0, 0, 0]
def xv (ad : Nat → Nat) : Value → Value
  | .ref a => .ref (ad a)
  | v => v
def xw_v (ad : Nat → Nat) (σ : xm_M) (a k c : Nat) : Value := if c = 0 then .int (σ.1 a k) else if c = 1 then .long σ.2 else .ref (ad (c - 2))
def xw_f (ad : Nat → Nat) (σ : xm_M) (a : Nat) : List Value := (List.range (sh_f a).length).map (fun k => xw_v ad σ a k ((sh_f a).getD k 0))
def xw_e (ad : Nat → Nat) (cA : Nat → ClassId) (σ : xm_M) (a : Nat) : va_E :=
  if sh_cl a < 9 then .inr (sh_cl a, xw_f ad σ a) else if sh_t a = 2 then .inl (cA 2, sh_n a, .inr (.inr (.inr (.inr (fun k => some (ad (σ.1 a k).toNatClampNeg)))))) else .inl (cA (sh_t a), sh_n a, .inl (σ.1 a))
def xw_w (ad : Nat → Nat) (cA : Nat → ClassId) (σ : xm_M) : va_W := (List.range 52).map (fun a => (ad a, xw_e ad cA σ a))
def xg_A (ad : Nat → Nat) : Nat → Prop := fun q => ∃ a, a < 52 ∧ q = ad a
def xg_tys (cA : Nat → ClassId) : List (ClassId × FieldType) := [(cA 0, .int), (cA 1, .boolean), (cA 2, .object RX1)]
theorem xw_at {ad : Nat → Nat} {cA : Nat → ClassId} {σ : xm_M} {a : Nat} (h : a < 52) : (xw_w ad cA σ)[a]? = some (ad a, xw_e ad cA σ a) := by
  simp [xw_w, List.getElem?_map, List.getElem?_range, h]
theorem xw_len {ad : Nat → Nat} {cA : Nat → ClassId} {σ : xm_M} : (xw_w ad cA σ).length = 52 := by simp [xw_w]
theorem xw_at' {ad : Nat → Nat} {cA : Nat → ClassId} {σ : xm_M} {a : Nat} {q : Nat × va_E} (h : (xw_w ad cA σ)[a]? = some q) : a < 52 ∧ q = (ad a, xw_e ad cA σ a) := by
  have h1 : a < 52 := by have := (List.getElem?_eq_some_iff.mp h).1; rwa [xw_len] at this
  rw [xw_at h1] at h
  exact ⟨h1, (Option.some.inj h).symm⟩
theorem xw_e_same {ad : Nat → Nat} {cA : Nat → ClassId} {σ σ' : xm_M} {b : Nat} (h : ∀ k, σ'.1 b k = σ.1 b k) (ht : σ'.2 = σ.2 ∨ b ≠ 36) : xw_e ad cA σ' b = xw_e ad cA σ b := by
  have hf : σ'.1 b = σ.1 b := funext h
  have hF : xw_f ad σ' b = xw_f ad σ b := by
    unfold xw_f
    apply List.map_congr_left
    intro k _
    unfold xw_v
    rcases ht with ht | ht
    · rw [hf, ht]
    · have hne : (sh_f b).getD k 0 ≠ 1 := by
        unfold sh_f
        repeat' split
        all_goals first | (exfalso; exact ht (by assumption)) | skip
        all_goals (rcases k with _ | _ | _ | _ | _ | _ | _ | _ | _ | _ | _ | _ | _ | _ | _ | _ | _ | k <;> simp)
      rw [hf, if_neg hne, if_neg hne]
  unfold xw_e
  rw [hF, hf]
theorem xw_set {ad : Nat → Nat} {cA : Nat → ClassId} {σ σ' : xm_M} {a : Nat} (h : a < 52) (hs : ∀ b, b ≠ a → xw_e ad cA σ' b = xw_e ad cA σ b) : (xw_w ad cA σ).set a (ad a, xw_e ad cA σ' a) = xw_w ad cA σ' := by
  apply List.ext_getElem?
  intro k
  by_cases hk : k < 52
  · rw [xw_at hk]
    by_cases e : k = a
    · subst e
      rw [List.getElem?_set_self (by rw [xw_len]; exact hk)]
    · rw [List.getElem?_set_ne (Ne.symm e), xw_at hk, hs k e]
  · rw [List.getElem?_eq_none (by rw [List.length_set, xw_len]; omega), List.getElem?_eq_none (by rw [xw_len]; omega)]
theorem xm_set_e {ad : Nat → Nat} {cA : Nat → ClassId} {σ : xm_M} {a k : Nat} {v : Int32} {b : Nat} (h : b ≠ a) : xw_e ad cA (xm_set σ a k v) b = xw_e ad cA σ b :=
  xw_e_same (fun j => by simp [xm_set, h]) (Or.inl rfl)
/-- the world's addresses are apart -/
def xg_ap (ad : Nat → Nat) : Prop := ∀ a b, a < 52 → b < 52 → ad a = ad b → a = b
theorem xg_D {ad : Nat → Nat} {cA : Nat → ClassId} {σ : xm_M} (h : xg_ap ad) : va_D (xg_A ad) (xw_w ad cA σ) := by
  refine ⟨fun i j p q hi hj e => ?_, fun k q hk => ?_⟩
  · obtain ⟨h1, rfl⟩ := xw_at' hi
    obtain ⟨h2, rfl⟩ := xw_at' hj
    exact h i j h1 h2 e
  · obtain ⟨h1, rfl⟩ := xw_at' hk
    exact ⟨k, h1, rfl⟩
/-! what is constant: tables, words -/
def xk_above : List Int32 := [-1, 0, 1, 1, 0, 1]
def xk_nums : List Int32 := [3, 3, 3, 3, 3, 2, 1, 1, 1, 0, 0]
def xk_words : List (Nat × String) := [(91, "dead"), (93, "tool"), (95, "gate"), (97, "being"), (99, "food"), (101, "bears"), (102, "wash"), (103, "chill"), (104, "noon"), (105, "court"), (107, "bare")]
def xk_bytes : List (List Int32) := [[100, 101, 97, 100], [116, 111, 111, 108], [103, 97, 116, 101], [98, 101, 105, 110, 103], [102, 111, 111, 100], [98, 101, 97, 114, 115], [119, 97, 115, 104], [99, 104, 105, 108, 108], [110, 111, 111, 110], [99, 111, 117, 114, 116], [98, 97, 114, 101]]
def xk_lens : List Nat := [4, 4, 4, 5, 4, 5, 4, 5, 4, 5, 4]
def xk_nest : List Cond := [.methodLinkNest RX1 30 yX4_hasBit RX4, .methodLinkNest RX1 73 yX4_handIn RX4, .methodLinkNest RX2 25 yX4_hasBit RX4, .methodLinkNest RX2 69 yX4_handIn RX4]
def xg_K (ad : Nat → Nat) (A : Nat → Prop) (U : State) (H : Heap) : Prop :=
  va_Z RX4 "KIND_ABOVE" "[I" (.ref (ad 60)) A U H ∧ va_T .int (ad 60) 6 (fun j => .int (xk_above.getD j 0)) A U H ∧ va_Z RX3 "NUMBERS" "[I" (.ref (ad 61)) A U H ∧ va_T .int (ad 61) 11 (fun j => .int (xk_nums.getD j 0)) A U H ∧
  va_Z RJ0 "COMPACT_STRINGS" "Z" (.int 1) A U H ∧ vk_S 11 xk_lens xk_bytes (fun i => ad (70 + i)) (fun i => ad (90 + i)) A U H
def xg_N (ad : Nat → Nat) (U : State) : Prop := (∀ w ∈ xk_nest, va_Nw w U) ∧ ∀ i, i < 11 → vk_R RX3 (xk_words.getD i (0, "")).1 (xk_words.getD i (0, "")).2 (ad (70 + i)) U
theorem xg_K.moved {ad : Nat → Nat} {A : Nat → Prop} {u U : State} {H : Heap} (hvm : u.vm.Alike U.vm) (h : xg_K ad A u H) : xg_K ad A U H :=
  ⟨h.1.moved hvm, h.2.1.moved hvm, h.2.2.1.moved hvm, h.2.2.2.1.moved hvm, h.2.2.2.2.1.moved hvm, h.2.2.2.2.2.moved hvm⟩
theorem xg_K.kept {ad : Nat → Nat} {A : Nat → Prop} {U : State} {H H1 : Heap} (h : xg_K ad A U H) (hq : ∀ a : Nat, a < H.size → ¬ A a → H1[a]? = H[a]?) : xg_K ad A U H1 :=
  ⟨h.1.kept hq, h.2.1.kept hq, h.2.2.1.kept hq, h.2.2.2.1.kept hq, h.2.2.2.2.1.kept hq, h.2.2.2.2.2.kept hq⟩
theorem xg_N.warm {ad : Nat → Nat} {s U : State} (hW : s.WarmedH U.vm) (h : xg_N ad s) : xg_N ad U := by
  refine ⟨fun w hw => ?_, fun i hi => (h.2 i hi).warm hW⟩
  have h1 := h.1 w hw
  simp only [xk_nest, List.mem_cons, List.not_mem_nil, or_false] at hw
  rcases hw with rfl | rfl | rfl | rfl <;> exact va_Nw.warmM hW h1
theorem xg_N.same {ad : Nat → Nat} {u U : State} (hv : U.vm = u.vm) (h : xg_N ad u) : xg_N ad U := by
  refine ⟨fun w hw => ?_, fun i hi => (h.2 i hi).same hv⟩
  have h1 := h.1 w hw
  simp only [xk_nest, List.mem_cons, List.not_mem_nil, or_false] at hw
  rcases hw with rfl | rfl | rfl | rfl <;> exact va_Nw.same rfl hv.symm h1
/-! a method: its name, its bytes, its locals, what it returns -/
abbrev xg_Y : Type := MethodName × ByteArray × Nat × Option FieldType
def xg_cd (M : xg_Y) : Cond := .code M.1 M.2.1 M.2.2.1 M.2.2.2
def xg_ws (M : xg_Y) : List Cond := xg_cd M :: xg_tb
def xg_rm (d : Nat) : Room := { frames := d + 1, cells := 0, slots := 0, locals := 60 * (d + 1) }
/-- a state in which the world is held -/
def xg_At (ad : Nat → Nat) (G : va_G) (cA : Nat → ClassId) (σ : xm_M) (U : State) : Prop :=
  va_P G vwCl (xw_w ad cA σ) U.heap ∧ va_K G vwCl (xg_tys cA) U ∧ xg_ap ad ∧ xg_K ad (xg_A ad) U U.heap ∧ xg_N ad U
def xg_Q (ad : Nat → Nat) (G : va_G) (cA : Nat → ClassId) (Q : Option Value → xm_M → Prop) : Array Value → State → Outcome → State → Prop := fun _ st oc t =>
  (∃ (r : Option Value) (σ : xm_M), oc = .returned (r.map (xv ad)) ∧ Q r σ ∧ va_P G vwCl (xw_w ad cA σ) t.heap) ∧ va_F (xg_A ad) st t
/-- a call of M with these arguments from this memory ends with Q -/
def xg_C (d : Nat) (M : xg_Y) (As : List Value) (σ : xm_M) (Q : Option Value → xm_M → Prop) : Prop :=
  ∀ (l : Launch) (ad : Nat → Nat) (G : va_G) (cA : Nat → ClassId), Met l M.1 (xg_ws M) (xg_rm d) (va_Pc (As.map (xv ad)) (xg_At ad G cA σ)) (xg_Q ad G cA Q) 0 0 (xg_A ad)
def xg_sc (xs : Option (Nat × (Nat → Int32))) (b : Nat) (A : Nat → Prop) (s : State) : Prop := match xs with
  | none => True
  | some q => va_X b q.1 q.2 s s.heap ∧ b < s.heap.size ∧ ¬ A b
/-- what stands still while a method is walked -/
def xg_T (xs : Option (Nat × (Nat → Int32))) (d : Nat) (M : xg_Y) (p : Program) (l : Launch) (e : Env) (R : Room) (s : State) (m : MethodId) (args : Array Value) (below : List Frame) (meth : Method) (c : Code) (cells slots : Nat) (ad : Nat → Nat) (G : va_G) (cA : Nat → ClassId) : Prop :=
  p.tables.exec = Jvm.exec ∧ c.code = M.2.1 ∧ c.maxLocals = M.2.2.1 ∧ s.vm.findClass M.1.cls = some m.cls ∧ (∀ w ∈ xg_tb, w.before args s = true) ∧ (d + 1 ≤ R.frames ∧ 60 * (d + 1) ≤ R.locals ∧ cells ≤ R.cells ∧ slots ≤ R.slots) ∧
  va_K G vwCl (xg_tys cA) s ∧ xg_ap ad ∧ xg_K ad (xg_A ad) s s.heap ∧ xg_N ad s ∧ xg_sc xs (ad 110) (xg_A ad) s
/-- an instruction that ends the method with this answer -/
def xg_isR (M : xg_Y) (pc : Nat) (r : Option Value) : Prop :=
  (r = none ∧ decode M.2.1 pc = .ok (.return_, 1) ∧ M.2.2.2 = none) ∨ (∃ (v : Int32) (ty : FieldType), r = some (.int v) ∧ decode M.2.1 pc = .ok (.ireturn, 1) ∧ M.2.2.2 = some ty ∧ narrow ty (.int v) = .int v) ∨
  (∃ v : Int64, r = some (.long v) ∧ decode M.2.1 pc = .ok (.lreturn, 1) ∧ M.2.2.2 = some .long) ∨ (∃ (a : Nat) (n : String), r = some (.ref a) ∧ decode M.2.1 pc = .ok (.areturn, 1) ∧ M.2.2.2 = some (.object n))
def xg_R (M : xg_Y) (p : Program) (l : Launch) (e : Env) (R : Room) (s : State) (m : MethodId) (args : Array Value) (below : List Frame) (meth : Method) (c : Code) (cells slots : Nat) (ad : Nat → Nat) (G : va_G) (cA : Nat → ClassId) (Q : Option Value → xm_M → Prop) (Z : State → Prop) : Prop :=
  ∀ (r : Option Value) (σ : xm_M) (H : Heap) (locs : List Loc) (ls : Array Slot) (pc : Nat), Q r σ → va_P G vwCl (xw_w ad cA σ) H → va_S (xg_A ad) s.heap H locs → xg_isR M pc r → W p l e R s m args below meth c H locs cells slots Z (F0 m pc ls (r.map (xv ad)).toList)
/-- from this frame of M, with this memory, the method ends with Q -/
def xg_X (xs : Option (Nat × (Nat → Int32))) (d : Nat) (M : xg_Y) (pc : Nat) (lv : List (Nat × Value)) (st : List Value) (σ : xm_M) (Q : Option Value → xm_M → Prop) : Prop :=
  ∀ (p : Program) (l : Launch) (e : Env) (R : Room) (s : State) (m : MethodId) (args : Array Value) (below : List Frame) (meth : Method) (c : Code) (cells slots : Nat) (ad : Nat → Nat) (G : va_G) (cA : Nat → ClassId) (Z : State → Prop),
    xg_T xs d M p l e R s m args below meth c cells slots ad G cA → xg_R M p l e R s m args below meth c cells slots ad G cA Q Z →
    ∀ (H : Heap) (locs : List Loc) (ls : Array Slot), va_P G vwCl (xw_w ad cA σ) H → va_S (xg_A ad) s.heap H locs → lv_has ls M.2.2.1 (lv.map (fun q => (q.1, xv ad q.2))) →
    W p l e R s m args below meth c H locs cells slots Z (F0 m pc ls (st.map (xv ad)))
theorem xv_cat (ad : Nat → Nat) (v : Value) : (xv ad v).category = v.category := by cases v <;> rfl
theorem xv_args (ad : Nat → Nat) : ∀ (i : Nat) (vs : List Value), lv_args i (vs.map (xv ad)) = (lv_args i vs).map (fun q => (q.1, xv ad q.2))
  | _, [] => rfl
  | i, v :: vs => by
    simp only [List.map_cons, lv_args, xv_cat]
    rw [xv_args]
theorem xv_sl (ad : Nat → Nat) (vs : List Value) : (lg_sl (vs.map (xv ad))).length = (lg_sl vs).length := by
  induction vs with
  | nil => rfl
  | cons v vs ih => cases v <;> simp_all [lg_sl, xv, Value.category]
set_option maxHeartbeats 4000000 in
/-- a contract is a walk of the body -/
theorem xg_C_of {d : Nat} {M : xg_Y} {As : List Value} {σ : xm_M} {Q : Option Value → xm_M → Prop} (hy : plainName M.1.cls = true) (hl : (lg_sl As).length ≤ M.2.2.1) (h : xg_X none d M 0 (lv_args 0 As) [] σ Q) : xg_C d M As σ Q := by
  intro l ad G cA
  refine Met.ofW (cc := M.2.1) (maxL := M.2.2.1) (ret := M.2.2.2) hy rfl ?_
  intro p e s m args below meth c s₁ B hml hv
  obtain ⟨rfl, hP, hK, hap, hKK, hN⟩ := hv
  have hts := atoms_spec (ws := xg_ws M) B.pre
  have hr := B.returns
  have hlocks := B.notSynchronized
  have hlv := lv_entry (As.map (xv ad)) (n := M.2.2.1) (by rw [xv_sl]; exact hl)
  rw [xv_args] at hlv
  rw [lg_entry_eq]
  have hT : xg_T none d M p l e (headSpec (xg_ws M) (xg_rm d)).room s m (As.map (xv ad)).toArray below meth c 0 0 ad G cA :=
    ⟨B.exec, B.bytes, hml, findClass_of_methodNamed B.named, fun w hw => hts w (List.mem_cons_of_mem _ hw), ⟨Nat.le_refl _, Nat.le_refl _, Nat.zero_le _, Nat.zero_le _⟩, hK, hap, hKK, hN, trivial⟩
  refine h p l e _ s m _ below meth c 0 0 ad G cA _ hT ?_ s.heap [] _ hP va_S.rf hlv
  intro r σ' H locs ls pc hQ hP' hS' hR
  have hq : ∀ t : State, t.heap = H → s.WarmedH t.vm → xg_Q ad G cA Q (As.map (xv ad)).toArray s (.returned (r.map (xv ad))) t := fun t ht _ => ⟨⟨r, σ', rfl, hQ, by rw [ht]; exact hP'⟩, hS'.F ht⟩
  rcases hR with ⟨rfl, hd, h0⟩ | ⟨v, ty, rfl, hd, h0, hn⟩ | ⟨v, rfl, hd, h0⟩ | ⟨a, n, rfl, hd, h0⟩
  · exact W.vret B.exec B.bytes (hr.trans h0) hq hS'.2.2 hd
  · exact W.zret B.exec B.bytes (hr.trans h0) hn hq hS'.2.2 hd
  · exact W.lret B.exec B.bytes (hr.trans h0) hq hS'.2.2 hd
  · exact W.aret B.exec B.bytes (hr.trans h0) (Or.inl ⟨n, rfl⟩) (Or.inr ⟨_, rfl⟩) hq hS'.2.2 hd
/-- more room -/
theorem xg_X_mono {xs : Option (Nat × (Nat → Int32))} {d : Nat} {M : xg_Y} {pc : Nat} {lv : List (Nat × Value)} {st : List Value} {σ : xm_M} {Q Q' : Option Value → xm_M → Prop} (hQ : ∀ r σ, Q r σ → Q' r σ) (h : xg_X xs d M pc lv st σ Q) : xg_X xs d M pc lv st σ Q' := by
  intro p l e R s m args below meth c cells slots ad G cA Z hT hR H locs ls hP hS hl
  exact h p l e R s m args below meth c cells slots ad G cA Z hT (fun r σ H locs ls pc hq => hR r σ H locs ls pc (hQ r σ hq)) H locs ls hP hS hl
end
section
section RULES
variable {xs : Option (Nat × (Nat → Int32))} {d : Nat} {M : xg_Y} {pc : Nat} {lv : List (Nat × Value)} {st : List Value} {σ : xm_M} {Q : Option Value → xm_M → Prop}
theorem X_iconst {n : Int} (v : Int32) (pd : Nat) (hd : decode M.2.1 pc = .ok (.iconst n, 1)) (hv : Int32.ofInt n = v) (hn : pc + 1 = pd) (k : xg_X xs d M (pd) lv (.int v :: st) σ Q) : xg_X xs d M (pc) lv st σ Q := by
  intro p l e R s m args below meth c cells slots ad G cA Z hT hR H locs ls hP hS hl
  subst hn
  exact lv_iconst hT.1 hT.2.1 hd hv (k p l e R s m args below meth c cells slots ad G cA Z hT hR H locs ls hP hS hl)
theorem X_bipush {n : Int} (v : Int32) (pd : Nat) (hd : decode M.2.1 pc = .ok (.bipush n, 2)) (hv : (Int8.ofInt n).toInt32 = v) (hn : pc + 2 = pd) (k : xg_X xs d M (pd) lv (.int v :: st) σ Q) : xg_X xs d M (pc) lv st σ Q := by
  intro p l e R s m args below meth c cells slots ad G cA Z hT hR H locs ls hP hS hl
  subst hn
  exact lv_bipush hT.1 hT.2.1 hd hv (k p l e R s m args below meth c cells slots ad G cA Z hT hR H locs ls hP hS hl)
theorem X_sipush {n : Int} (v : Int32) (pd : Nat) (hd : decode M.2.1 pc = .ok (.sipush n, 3)) (hv : (Int16.ofInt n).toInt32 = v) (hn : pc + 3 = pd) (k : xg_X xs d M (pd) lv (.int v :: st) σ Q) : xg_X xs d M (pc) lv st σ Q := by
  intro p l e R s m args below meth c cells slots ad G cA Z hT hR H locs ls hP hS hl
  subst hn
  exact lv_sipush hT.1 hT.2.1 hd hv (k p l e R s m args below meth c cells slots ad G cA Z hT hR H locs ls hP hS hl)
theorem X_lconst {n : Fin 2} (v : Int64) (pd : Nat) (hd : decode M.2.1 pc = .ok (.lconst n, 1)) (hv : Int64.ofNat (n : Nat) = v) (hn : pc + 1 = pd) (k : xg_X xs d M (pd) lv (.long v :: st) σ Q) : xg_X xs d M (pc) lv st σ Q := by
  intro p l e R s m args below meth c cells slots ad G cA Z hT hR H locs ls hP hS hl
  subst hn
  exact lv_lconst hT.1 hT.2.1 hd hv (k p l e R s m args below meth c cells slots ad G cA Z hT hR H locs ls hP hS hl)
theorem X_ldc {idx : Nat} (v : Int32) (pd : Nat) (hd : decode M.2.1 pc = .ok (.ldc idx, 2)) (hw : Cond.constant M.1.cls idx v ∈ xg_tb) (hn : pc + 2 = pd) (k : xg_X xs d M (pd) lv (.int v :: st) σ Q) : xg_X xs d M (pc) lv st σ Q := by
  intro p l e R s m args below meth c cells slots ad G cA Z hT hR H locs ls hP hS hl
  subst hn
  exact W.ldc hT.1 hT.2.1 hT.2.2.2.1 (hT.2.2.2.2.1 _ hw) rfl hd (k p l e R s m args below meth c cells slots ad G cA Z hT hR H locs ls hP hS hl)
theorem X_ldcw {idx : Nat} (v : Int32) (pd : Nat) (hd : decode M.2.1 pc = .ok (.ldc_w idx, 3)) (hw : Cond.constant M.1.cls idx v ∈ xg_tb) (hn : pc + 3 = pd) (k : xg_X xs d M (pd) lv (.int v :: st) σ Q) : xg_X xs d M (pc) lv st σ Q := by
  intro p l e R s m args below meth c cells slots ad G cA Z hT hR H locs ls hP hS hl
  subst hn
  exact lv_ldcw hT.1 hT.2.1 hT.2.2.2.1 (hT.2.2.2.2.1 _ hw) hd (k p l e R s m args below meth c cells slots ad G cA Z hT hR H locs ls hP hS hl)
theorem X_ldc2 {idx : Nat} (v : Int64) (pd : Nat) (hd : decode M.2.1 pc = .ok (.ldc2_w idx, 3)) (hw : Cond.constantLong M.1.cls idx v ∈ xg_tb) (hn : pc + 3 = pd) (k : xg_X xs d M (pd) lv (.long v :: st) σ Q) : xg_X xs d M (pc) lv st σ Q := by
  intro p l e R s m args below meth c cells slots ad G cA Z hT hR H locs ls hP hS hl
  subst hn
  exact lv_ldc2 hT.1 hT.2.1 hT.2.2.2.1 (hT.2.2.2.2.1 _ hw) hd (k p l e R s m args below meth c cells slots ad G cA Z hT hR H locs ls hP hS hl)
theorem X_ldcS {idx : Nat} (i : Nat) (pd : Nat) (hd : decode M.2.1 pc = .ok (.ldc idx, 2)) (hi : i < 11) (hw : (xk_words.getD i (0, "")).1 = idx ∧ M.1.cls = RX3) (hn : pc + 2 = pd) (k : xg_X xs d M (pd) lv (.ref (70 + i) :: st) σ Q) : xg_X xs d M (pc) lv st σ Q := by
  intro p l e R s m args below meth c cells slots ad G cA Z hT hR H locs ls hP hS hl
  subst hn
  have h1 := hT.2.2.2.2.2.2.2.2.2.1.2 i hi
  rw [hw.1] at h1
  exact va_ldcS hT.1 hT.2.1 (by have h2 := hT.2.2.2.1; rw [hw.2] at h2; exact h2) h1 hd (k p l e R s m args below meth c cells slots ad G cA Z hT hR H locs ls hP hS hl)
theorem X_ild_g {i : Nat} {x : Int32} (pd : Nat) (hd : decode M.2.1 pc = .ok (.iload i, 2)) (hn : pc + 2 = pd) (hq : (i, Value.int x) ∈ lv) (k : xg_X xs d M (pd) lv (.int x :: st) σ Q) : xg_X xs d M (pc) lv st σ Q := by
  intro p l e R s m args below meth c cells slots ad G cA Z hT hR H locs ls hP hS hl
  subst hn
  exact lv_iload hT.1 hT.2.1 hd (hl.2.2 _ (List.mem_map.mpr ⟨_, hq, rfl⟩)) (k p l e R s m args below meth c cells slots ad G cA Z hT hR H locs ls hP hS hl)
theorem X_ild0 {i : Nat} {x : Int32} {r : List (Nat × Value)} (pd : Nat) (hd : decode M.2.1 pc = .ok (.iload i, 2)) (hn : pc + 2 = pd) (k : xg_X xs d M (pd) ((i, .int x) :: r) (.int x :: st) σ Q) : xg_X xs d M (pc) ((i, .int x) :: r) st σ Q := X_ild_g pd hd hn (by simp) k
theorem X_ild1 {i : Nat} {x : Int32} {q0 : Nat × Value} {r : List (Nat × Value)} (pd : Nat) (hd : decode M.2.1 pc = .ok (.iload i, 2)) (hn : pc + 2 = pd) (k : xg_X xs d M (pd) (q0 :: (i, .int x) :: r) (.int x :: st) σ Q) : xg_X xs d M (pc) (q0 :: (i, .int x) :: r) st σ Q := X_ild_g pd hd hn (by simp) k
theorem X_ild2 {i : Nat} {x : Int32} {q0 q1 : Nat × Value} {r : List (Nat × Value)} (pd : Nat) (hd : decode M.2.1 pc = .ok (.iload i, 2)) (hn : pc + 2 = pd) (k : xg_X xs d M (pd) (q0 :: q1 :: (i, .int x) :: r) (.int x :: st) σ Q) : xg_X xs d M (pc) (q0 :: q1 :: (i, .int x) :: r) st σ Q := X_ild_g pd hd hn (by simp) k
theorem X_ild3 {i : Nat} {x : Int32} {q0 q1 q2 : Nat × Value} {r : List (Nat × Value)} (pd : Nat) (hd : decode M.2.1 pc = .ok (.iload i, 2)) (hn : pc + 2 = pd) (k : xg_X xs d M (pd) (q0 :: q1 :: q2 :: (i, .int x) :: r) (.int x :: st) σ Q) : xg_X xs d M (pc) (q0 :: q1 :: q2 :: (i, .int x) :: r) st σ Q := X_ild_g pd hd hn (by simp) k
theorem X_ild4 {i : Nat} {x : Int32} {q0 q1 q2 q3 : Nat × Value} {r : List (Nat × Value)} (pd : Nat) (hd : decode M.2.1 pc = .ok (.iload i, 2)) (hn : pc + 2 = pd) (k : xg_X xs d M (pd) (q0 :: q1 :: q2 :: q3 :: (i, .int x) :: r) (.int x :: st) σ Q) : xg_X xs d M (pc) (q0 :: q1 :: q2 :: q3 :: (i, .int x) :: r) st σ Q := X_ild_g pd hd hn (by simp) k
theorem X_ild5 {i : Nat} {x : Int32} {q0 q1 q2 q3 q4 : Nat × Value} {r : List (Nat × Value)} (pd : Nat) (hd : decode M.2.1 pc = .ok (.iload i, 2)) (hn : pc + 2 = pd) (k : xg_X xs d M (pd) (q0 :: q1 :: q2 :: q3 :: q4 :: (i, .int x) :: r) (.int x :: st) σ Q) : xg_X xs d M (pc) (q0 :: q1 :: q2 :: q3 :: q4 :: (i, .int x) :: r) st σ Q := X_ild_g pd hd hn (by simp) k
theorem X_ild6 {i : Nat} {x : Int32} {q0 q1 q2 q3 q4 q5 : Nat × Value} {r : List (Nat × Value)} (pd : Nat) (hd : decode M.2.1 pc = .ok (.iload i, 2)) (hn : pc + 2 = pd) (k : xg_X xs d M (pd) (q0 :: q1 :: q2 :: q3 :: q4 :: q5 :: (i, .int x) :: r) (.int x :: st) σ Q) : xg_X xs d M (pc) (q0 :: q1 :: q2 :: q3 :: q4 :: q5 :: (i, .int x) :: r) st σ Q := X_ild_g pd hd hn (by simp) k
theorem X_ild7 {i : Nat} {x : Int32} {q0 q1 q2 q3 q4 q5 q6 : Nat × Value} {r : List (Nat × Value)} (pd : Nat) (hd : decode M.2.1 pc = .ok (.iload i, 2)) (hn : pc + 2 = pd) (k : xg_X xs d M (pd) (q0 :: q1 :: q2 :: q3 :: q4 :: q5 :: q6 :: (i, .int x) :: r) (.int x :: st) σ Q) : xg_X xs d M (pc) (q0 :: q1 :: q2 :: q3 :: q4 :: q5 :: q6 :: (i, .int x) :: r) st σ Q := X_ild_g pd hd hn (by simp) k
theorem X_ild8 {i : Nat} {x : Int32} {q0 q1 q2 q3 q4 q5 q6 q7 : Nat × Value} {r : List (Nat × Value)} (pd : Nat) (hd : decode M.2.1 pc = .ok (.iload i, 2)) (hn : pc + 2 = pd) (k : xg_X xs d M (pd) (q0 :: q1 :: q2 :: q3 :: q4 :: q5 :: q6 :: q7 :: (i, .int x) :: r) (.int x :: st) σ Q) : xg_X xs d M (pc) (q0 :: q1 :: q2 :: q3 :: q4 :: q5 :: q6 :: q7 :: (i, .int x) :: r) st σ Q := X_ild_g pd hd hn (by simp) k
theorem X_ild9 {i : Nat} {x : Int32} {q0 q1 q2 q3 q4 q5 q6 q7 q8 : Nat × Value} {r : List (Nat × Value)} (pd : Nat) (hd : decode M.2.1 pc = .ok (.iload i, 2)) (hn : pc + 2 = pd) (k : xg_X xs d M (pd) (q0 :: q1 :: q2 :: q3 :: q4 :: q5 :: q6 :: q7 :: q8 :: (i, .int x) :: r) (.int x :: st) σ Q) : xg_X xs d M (pc) (q0 :: q1 :: q2 :: q3 :: q4 :: q5 :: q6 :: q7 :: q8 :: (i, .int x) :: r) st σ Q := X_ild_g pd hd hn (by simp) k
theorem X_ild10 {i : Nat} {x : Int32} {q0 q1 q2 q3 q4 q5 q6 q7 q8 q9 : Nat × Value} {r : List (Nat × Value)} (pd : Nat) (hd : decode M.2.1 pc = .ok (.iload i, 2)) (hn : pc + 2 = pd) (k : xg_X xs d M (pd) (q0 :: q1 :: q2 :: q3 :: q4 :: q5 :: q6 :: q7 :: q8 :: q9 :: (i, .int x) :: r) (.int x :: st) σ Q) : xg_X xs d M (pc) (q0 :: q1 :: q2 :: q3 :: q4 :: q5 :: q6 :: q7 :: q8 :: q9 :: (i, .int x) :: r) st σ Q := X_ild_g pd hd hn (by simp) k
theorem X_ild11 {i : Nat} {x : Int32} {q0 q1 q2 q3 q4 q5 q6 q7 q8 q9 q10 : Nat × Value} {r : List (Nat × Value)} (pd : Nat) (hd : decode M.2.1 pc = .ok (.iload i, 2)) (hn : pc + 2 = pd) (k : xg_X xs d M (pd) (q0 :: q1 :: q2 :: q3 :: q4 :: q5 :: q6 :: q7 :: q8 :: q9 :: q10 :: (i, .int x) :: r) (.int x :: st) σ Q) : xg_X xs d M (pc) (q0 :: q1 :: q2 :: q3 :: q4 :: q5 :: q6 :: q7 :: q8 :: q9 :: q10 :: (i, .int x) :: r) st σ Q := X_ild_g pd hd hn (by simp) k
theorem X_ild12 {i : Nat} {x : Int32} {q0 q1 q2 q3 q4 q5 q6 q7 q8 q9 q10 q11 : Nat × Value} {r : List (Nat × Value)} (pd : Nat) (hd : decode M.2.1 pc = .ok (.iload i, 2)) (hn : pc + 2 = pd) (k : xg_X xs d M (pd) (q0 :: q1 :: q2 :: q3 :: q4 :: q5 :: q6 :: q7 :: q8 :: q9 :: q10 :: q11 :: (i, .int x) :: r) (.int x :: st) σ Q) : xg_X xs d M (pc) (q0 :: q1 :: q2 :: q3 :: q4 :: q5 :: q6 :: q7 :: q8 :: q9 :: q10 :: q11 :: (i, .int x) :: r) st σ Q := X_ild_g pd hd hn (by simp) k
theorem X_ild13 {i : Nat} {x : Int32} {q0 q1 q2 q3 q4 q5 q6 q7 q8 q9 q10 q11 q12 : Nat × Value} {r : List (Nat × Value)} (pd : Nat) (hd : decode M.2.1 pc = .ok (.iload i, 2)) (hn : pc + 2 = pd) (k : xg_X xs d M (pd) (q0 :: q1 :: q2 :: q3 :: q4 :: q5 :: q6 :: q7 :: q8 :: q9 :: q10 :: q11 :: q12 :: (i, .int x) :: r) (.int x :: st) σ Q) : xg_X xs d M (pc) (q0 :: q1 :: q2 :: q3 :: q4 :: q5 :: q6 :: q7 :: q8 :: q9 :: q10 :: q11 :: q12 :: (i, .int x) :: r) st σ Q := X_ild_g pd hd hn (by simp) k
theorem X_ild14 {i : Nat} {x : Int32} {q0 q1 q2 q3 q4 q5 q6 q7 q8 q9 q10 q11 q12 q13 : Nat × Value} {r : List (Nat × Value)} (pd : Nat) (hd : decode M.2.1 pc = .ok (.iload i, 2)) (hn : pc + 2 = pd) (k : xg_X xs d M (pd) (q0 :: q1 :: q2 :: q3 :: q4 :: q5 :: q6 :: q7 :: q8 :: q9 :: q10 :: q11 :: q12 :: q13 :: (i, .int x) :: r) (.int x :: st) σ Q) : xg_X xs d M (pc) (q0 :: q1 :: q2 :: q3 :: q4 :: q5 :: q6 :: q7 :: q8 :: q9 :: q10 :: q11 :: q12 :: q13 :: (i, .int x) :: r) st σ Q := X_ild_g pd hd hn (by simp) k
theorem X_ildn_g {j : Fin 4} {i : Nat} {x : Int32} (pd : Nat) (hd : decode M.2.1 pc = .ok (.iload_n j, 1)) (hi : (j : Nat) = i) (hn : pc + 1 = pd) (hq : (i, Value.int x) ∈ lv) (k : xg_X xs d M (pd) lv (.int x :: st) σ Q) : xg_X xs d M (pc) lv st σ Q := by
  intro p l e R s m args below meth c cells slots ad G cA Z hT hR H locs ls hP hS hl
  subst hn
  exact lv_iload_n hT.1 hT.2.1 hd hi (hl.2.2 _ (List.mem_map.mpr ⟨_, hq, rfl⟩)) (k p l e R s m args below meth c cells slots ad G cA Z hT hR H locs ls hP hS hl)
theorem X_ildn0 {j : Fin 4} {i : Nat} {x : Int32} {r : List (Nat × Value)} (pd : Nat) (hd : decode M.2.1 pc = .ok (.iload_n j, 1)) (hi : (j : Nat) = i) (hn : pc + 1 = pd) (k : xg_X xs d M (pd) ((i, .int x) :: r) (.int x :: st) σ Q) : xg_X xs d M (pc) ((i, .int x) :: r) st σ Q := X_ildn_g pd hd hi hn (by simp) k
theorem X_ildn1 {j : Fin 4} {i : Nat} {x : Int32} {q0 : Nat × Value} {r : List (Nat × Value)} (pd : Nat) (hd : decode M.2.1 pc = .ok (.iload_n j, 1)) (hi : (j : Nat) = i) (hn : pc + 1 = pd) (k : xg_X xs d M (pd) (q0 :: (i, .int x) :: r) (.int x :: st) σ Q) : xg_X xs d M (pc) (q0 :: (i, .int x) :: r) st σ Q := X_ildn_g pd hd hi hn (by simp) k
theorem X_ildn2 {j : Fin 4} {i : Nat} {x : Int32} {q0 q1 : Nat × Value} {r : List (Nat × Value)} (pd : Nat) (hd : decode M.2.1 pc = .ok (.iload_n j, 1)) (hi : (j : Nat) = i) (hn : pc + 1 = pd) (k : xg_X xs d M (pd) (q0 :: q1 :: (i, .int x) :: r) (.int x :: st) σ Q) : xg_X xs d M (pc) (q0 :: q1 :: (i, .int x) :: r) st σ Q := X_ildn_g pd hd hi hn (by simp) k
theorem X_ildn3 {j : Fin 4} {i : Nat} {x : Int32} {q0 q1 q2 : Nat × Value} {r : List (Nat × Value)} (pd : Nat) (hd : decode M.2.1 pc = .ok (.iload_n j, 1)) (hi : (j : Nat) = i) (hn : pc + 1 = pd) (k : xg_X xs d M (pd) (q0 :: q1 :: q2 :: (i, .int x) :: r) (.int x :: st) σ Q) : xg_X xs d M (pc) (q0 :: q1 :: q2 :: (i, .int x) :: r) st σ Q := X_ildn_g pd hd hi hn (by simp) k
theorem X_ildn4 {j : Fin 4} {i : Nat} {x : Int32} {q0 q1 q2 q3 : Nat × Value} {r : List (Nat × Value)} (pd : Nat) (hd : decode M.2.1 pc = .ok (.iload_n j, 1)) (hi : (j : Nat) = i) (hn : pc + 1 = pd) (k : xg_X xs d M (pd) (q0 :: q1 :: q2 :: q3 :: (i, .int x) :: r) (.int x :: st) σ Q) : xg_X xs d M (pc) (q0 :: q1 :: q2 :: q3 :: (i, .int x) :: r) st σ Q := X_ildn_g pd hd hi hn (by simp) k
theorem X_ildn5 {j : Fin 4} {i : Nat} {x : Int32} {q0 q1 q2 q3 q4 : Nat × Value} {r : List (Nat × Value)} (pd : Nat) (hd : decode M.2.1 pc = .ok (.iload_n j, 1)) (hi : (j : Nat) = i) (hn : pc + 1 = pd) (k : xg_X xs d M (pd) (q0 :: q1 :: q2 :: q3 :: q4 :: (i, .int x) :: r) (.int x :: st) σ Q) : xg_X xs d M (pc) (q0 :: q1 :: q2 :: q3 :: q4 :: (i, .int x) :: r) st σ Q := X_ildn_g pd hd hi hn (by simp) k
theorem X_ildn6 {j : Fin 4} {i : Nat} {x : Int32} {q0 q1 q2 q3 q4 q5 : Nat × Value} {r : List (Nat × Value)} (pd : Nat) (hd : decode M.2.1 pc = .ok (.iload_n j, 1)) (hi : (j : Nat) = i) (hn : pc + 1 = pd) (k : xg_X xs d M (pd) (q0 :: q1 :: q2 :: q3 :: q4 :: q5 :: (i, .int x) :: r) (.int x :: st) σ Q) : xg_X xs d M (pc) (q0 :: q1 :: q2 :: q3 :: q4 :: q5 :: (i, .int x) :: r) st σ Q := X_ildn_g pd hd hi hn (by simp) k
theorem X_ildn7 {j : Fin 4} {i : Nat} {x : Int32} {q0 q1 q2 q3 q4 q5 q6 : Nat × Value} {r : List (Nat × Value)} (pd : Nat) (hd : decode M.2.1 pc = .ok (.iload_n j, 1)) (hi : (j : Nat) = i) (hn : pc + 1 = pd) (k : xg_X xs d M (pd) (q0 :: q1 :: q2 :: q3 :: q4 :: q5 :: q6 :: (i, .int x) :: r) (.int x :: st) σ Q) : xg_X xs d M (pc) (q0 :: q1 :: q2 :: q3 :: q4 :: q5 :: q6 :: (i, .int x) :: r) st σ Q := X_ildn_g pd hd hi hn (by simp) k
theorem X_ildn8 {j : Fin 4} {i : Nat} {x : Int32} {q0 q1 q2 q3 q4 q5 q6 q7 : Nat × Value} {r : List (Nat × Value)} (pd : Nat) (hd : decode M.2.1 pc = .ok (.iload_n j, 1)) (hi : (j : Nat) = i) (hn : pc + 1 = pd) (k : xg_X xs d M (pd) (q0 :: q1 :: q2 :: q3 :: q4 :: q5 :: q6 :: q7 :: (i, .int x) :: r) (.int x :: st) σ Q) : xg_X xs d M (pc) (q0 :: q1 :: q2 :: q3 :: q4 :: q5 :: q6 :: q7 :: (i, .int x) :: r) st σ Q := X_ildn_g pd hd hi hn (by simp) k
theorem X_ildn9 {j : Fin 4} {i : Nat} {x : Int32} {q0 q1 q2 q3 q4 q5 q6 q7 q8 : Nat × Value} {r : List (Nat × Value)} (pd : Nat) (hd : decode M.2.1 pc = .ok (.iload_n j, 1)) (hi : (j : Nat) = i) (hn : pc + 1 = pd) (k : xg_X xs d M (pd) (q0 :: q1 :: q2 :: q3 :: q4 :: q5 :: q6 :: q7 :: q8 :: (i, .int x) :: r) (.int x :: st) σ Q) : xg_X xs d M (pc) (q0 :: q1 :: q2 :: q3 :: q4 :: q5 :: q6 :: q7 :: q8 :: (i, .int x) :: r) st σ Q := X_ildn_g pd hd hi hn (by simp) k
theorem X_ildn10 {j : Fin 4} {i : Nat} {x : Int32} {q0 q1 q2 q3 q4 q5 q6 q7 q8 q9 : Nat × Value} {r : List (Nat × Value)} (pd : Nat) (hd : decode M.2.1 pc = .ok (.iload_n j, 1)) (hi : (j : Nat) = i) (hn : pc + 1 = pd) (k : xg_X xs d M (pd) (q0 :: q1 :: q2 :: q3 :: q4 :: q5 :: q6 :: q7 :: q8 :: q9 :: (i, .int x) :: r) (.int x :: st) σ Q) : xg_X xs d M (pc) (q0 :: q1 :: q2 :: q3 :: q4 :: q5 :: q6 :: q7 :: q8 :: q9 :: (i, .int x) :: r) st σ Q := X_ildn_g pd hd hi hn (by simp) k
theorem X_ildn11 {j : Fin 4} {i : Nat} {x : Int32} {q0 q1 q2 q3 q4 q5 q6 q7 q8 q9 q10 : Nat × Value} {r : List (Nat × Value)} (pd : Nat) (hd : decode M.2.1 pc = .ok (.iload_n j, 1)) (hi : (j : Nat) = i) (hn : pc + 1 = pd) (k : xg_X xs d M (pd) (q0 :: q1 :: q2 :: q3 :: q4 :: q5 :: q6 :: q7 :: q8 :: q9 :: q10 :: (i, .int x) :: r) (.int x :: st) σ Q) : xg_X xs d M (pc) (q0 :: q1 :: q2 :: q3 :: q4 :: q5 :: q6 :: q7 :: q8 :: q9 :: q10 :: (i, .int x) :: r) st σ Q := X_ildn_g pd hd hi hn (by simp) k
theorem X_ildn12 {j : Fin 4} {i : Nat} {x : Int32} {q0 q1 q2 q3 q4 q5 q6 q7 q8 q9 q10 q11 : Nat × Value} {r : List (Nat × Value)} (pd : Nat) (hd : decode M.2.1 pc = .ok (.iload_n j, 1)) (hi : (j : Nat) = i) (hn : pc + 1 = pd) (k : xg_X xs d M (pd) (q0 :: q1 :: q2 :: q3 :: q4 :: q5 :: q6 :: q7 :: q8 :: q9 :: q10 :: q11 :: (i, .int x) :: r) (.int x :: st) σ Q) : xg_X xs d M (pc) (q0 :: q1 :: q2 :: q3 :: q4 :: q5 :: q6 :: q7 :: q8 :: q9 :: q10 :: q11 :: (i, .int x) :: r) st σ Q := X_ildn_g pd hd hi hn (by simp) k
theorem X_ildn13 {j : Fin 4} {i : Nat} {x : Int32} {q0 q1 q2 q3 q4 q5 q6 q7 q8 q9 q10 q11 q12 : Nat × Value} {r : List (Nat × Value)} (pd : Nat) (hd : decode M.2.1 pc = .ok (.iload_n j, 1)) (hi : (j : Nat) = i) (hn : pc + 1 = pd) (k : xg_X xs d M (pd) (q0 :: q1 :: q2 :: q3 :: q4 :: q5 :: q6 :: q7 :: q8 :: q9 :: q10 :: q11 :: q12 :: (i, .int x) :: r) (.int x :: st) σ Q) : xg_X xs d M (pc) (q0 :: q1 :: q2 :: q3 :: q4 :: q5 :: q6 :: q7 :: q8 :: q9 :: q10 :: q11 :: q12 :: (i, .int x) :: r) st σ Q := X_ildn_g pd hd hi hn (by simp) k
theorem X_ildn14 {j : Fin 4} {i : Nat} {x : Int32} {q0 q1 q2 q3 q4 q5 q6 q7 q8 q9 q10 q11 q12 q13 : Nat × Value} {r : List (Nat × Value)} (pd : Nat) (hd : decode M.2.1 pc = .ok (.iload_n j, 1)) (hi : (j : Nat) = i) (hn : pc + 1 = pd) (k : xg_X xs d M (pd) (q0 :: q1 :: q2 :: q3 :: q4 :: q5 :: q6 :: q7 :: q8 :: q9 :: q10 :: q11 :: q12 :: q13 :: (i, .int x) :: r) (.int x :: st) σ Q) : xg_X xs d M (pc) (q0 :: q1 :: q2 :: q3 :: q4 :: q5 :: q6 :: q7 :: q8 :: q9 :: q10 :: q11 :: q12 :: q13 :: (i, .int x) :: r) st σ Q := X_ildn_g pd hd hi hn (by simp) k
theorem X_lld_g {i : Nat} {x : Int64} (pd : Nat) (hd : decode M.2.1 pc = .ok (.lload i, 2)) (hn : pc + 2 = pd) (hq : (i, Value.long x) ∈ lv) (k : xg_X xs d M (pd) lv (.long x :: st) σ Q) : xg_X xs d M (pc) lv st σ Q := by
  intro p l e R s m args below meth c cells slots ad G cA Z hT hR H locs ls hP hS hl
  subst hn
  exact lv_lload hT.1 hT.2.1 hd (hl.2.2 _ (List.mem_map.mpr ⟨_, hq, rfl⟩)) (k p l e R s m args below meth c cells slots ad G cA Z hT hR H locs ls hP hS hl)
theorem X_lld0 {i : Nat} {x : Int64} {r : List (Nat × Value)} (pd : Nat) (hd : decode M.2.1 pc = .ok (.lload i, 2)) (hn : pc + 2 = pd) (k : xg_X xs d M (pd) ((i, .long x) :: r) (.long x :: st) σ Q) : xg_X xs d M (pc) ((i, .long x) :: r) st σ Q := X_lld_g pd hd hn (by simp) k
theorem X_lld1 {i : Nat} {x : Int64} {q0 : Nat × Value} {r : List (Nat × Value)} (pd : Nat) (hd : decode M.2.1 pc = .ok (.lload i, 2)) (hn : pc + 2 = pd) (k : xg_X xs d M (pd) (q0 :: (i, .long x) :: r) (.long x :: st) σ Q) : xg_X xs d M (pc) (q0 :: (i, .long x) :: r) st σ Q := X_lld_g pd hd hn (by simp) k
theorem X_lld2 {i : Nat} {x : Int64} {q0 q1 : Nat × Value} {r : List (Nat × Value)} (pd : Nat) (hd : decode M.2.1 pc = .ok (.lload i, 2)) (hn : pc + 2 = pd) (k : xg_X xs d M (pd) (q0 :: q1 :: (i, .long x) :: r) (.long x :: st) σ Q) : xg_X xs d M (pc) (q0 :: q1 :: (i, .long x) :: r) st σ Q := X_lld_g pd hd hn (by simp) k
theorem X_lld3 {i : Nat} {x : Int64} {q0 q1 q2 : Nat × Value} {r : List (Nat × Value)} (pd : Nat) (hd : decode M.2.1 pc = .ok (.lload i, 2)) (hn : pc + 2 = pd) (k : xg_X xs d M (pd) (q0 :: q1 :: q2 :: (i, .long x) :: r) (.long x :: st) σ Q) : xg_X xs d M (pc) (q0 :: q1 :: q2 :: (i, .long x) :: r) st σ Q := X_lld_g pd hd hn (by simp) k
theorem X_lld4 {i : Nat} {x : Int64} {q0 q1 q2 q3 : Nat × Value} {r : List (Nat × Value)} (pd : Nat) (hd : decode M.2.1 pc = .ok (.lload i, 2)) (hn : pc + 2 = pd) (k : xg_X xs d M (pd) (q0 :: q1 :: q2 :: q3 :: (i, .long x) :: r) (.long x :: st) σ Q) : xg_X xs d M (pc) (q0 :: q1 :: q2 :: q3 :: (i, .long x) :: r) st σ Q := X_lld_g pd hd hn (by simp) k
theorem X_lld5 {i : Nat} {x : Int64} {q0 q1 q2 q3 q4 : Nat × Value} {r : List (Nat × Value)} (pd : Nat) (hd : decode M.2.1 pc = .ok (.lload i, 2)) (hn : pc + 2 = pd) (k : xg_X xs d M (pd) (q0 :: q1 :: q2 :: q3 :: q4 :: (i, .long x) :: r) (.long x :: st) σ Q) : xg_X xs d M (pc) (q0 :: q1 :: q2 :: q3 :: q4 :: (i, .long x) :: r) st σ Q := X_lld_g pd hd hn (by simp) k
theorem X_lld6 {i : Nat} {x : Int64} {q0 q1 q2 q3 q4 q5 : Nat × Value} {r : List (Nat × Value)} (pd : Nat) (hd : decode M.2.1 pc = .ok (.lload i, 2)) (hn : pc + 2 = pd) (k : xg_X xs d M (pd) (q0 :: q1 :: q2 :: q3 :: q4 :: q5 :: (i, .long x) :: r) (.long x :: st) σ Q) : xg_X xs d M (pc) (q0 :: q1 :: q2 :: q3 :: q4 :: q5 :: (i, .long x) :: r) st σ Q := X_lld_g pd hd hn (by simp) k
theorem X_lld7 {i : Nat} {x : Int64} {q0 q1 q2 q3 q4 q5 q6 : Nat × Value} {r : List (Nat × Value)} (pd : Nat) (hd : decode M.2.1 pc = .ok (.lload i, 2)) (hn : pc + 2 = pd) (k : xg_X xs d M (pd) (q0 :: q1 :: q2 :: q3 :: q4 :: q5 :: q6 :: (i, .long x) :: r) (.long x :: st) σ Q) : xg_X xs d M (pc) (q0 :: q1 :: q2 :: q3 :: q4 :: q5 :: q6 :: (i, .long x) :: r) st σ Q := X_lld_g pd hd hn (by simp) k
theorem X_lld8 {i : Nat} {x : Int64} {q0 q1 q2 q3 q4 q5 q6 q7 : Nat × Value} {r : List (Nat × Value)} (pd : Nat) (hd : decode M.2.1 pc = .ok (.lload i, 2)) (hn : pc + 2 = pd) (k : xg_X xs d M (pd) (q0 :: q1 :: q2 :: q3 :: q4 :: q5 :: q6 :: q7 :: (i, .long x) :: r) (.long x :: st) σ Q) : xg_X xs d M (pc) (q0 :: q1 :: q2 :: q3 :: q4 :: q5 :: q6 :: q7 :: (i, .long x) :: r) st σ Q := X_lld_g pd hd hn (by simp) k
theorem X_lld9 {i : Nat} {x : Int64} {q0 q1 q2 q3 q4 q5 q6 q7 q8 : Nat × Value} {r : List (Nat × Value)} (pd : Nat) (hd : decode M.2.1 pc = .ok (.lload i, 2)) (hn : pc + 2 = pd) (k : xg_X xs d M (pd) (q0 :: q1 :: q2 :: q3 :: q4 :: q5 :: q6 :: q7 :: q8 :: (i, .long x) :: r) (.long x :: st) σ Q) : xg_X xs d M (pc) (q0 :: q1 :: q2 :: q3 :: q4 :: q5 :: q6 :: q7 :: q8 :: (i, .long x) :: r) st σ Q := X_lld_g pd hd hn (by simp) k
theorem X_lld10 {i : Nat} {x : Int64} {q0 q1 q2 q3 q4 q5 q6 q7 q8 q9 : Nat × Value} {r : List (Nat × Value)} (pd : Nat) (hd : decode M.2.1 pc = .ok (.lload i, 2)) (hn : pc + 2 = pd) (k : xg_X xs d M (pd) (q0 :: q1 :: q2 :: q3 :: q4 :: q5 :: q6 :: q7 :: q8 :: q9 :: (i, .long x) :: r) (.long x :: st) σ Q) : xg_X xs d M (pc) (q0 :: q1 :: q2 :: q3 :: q4 :: q5 :: q6 :: q7 :: q8 :: q9 :: (i, .long x) :: r) st σ Q := X_lld_g pd hd hn (by simp) k
theorem X_lld11 {i : Nat} {x : Int64} {q0 q1 q2 q3 q4 q5 q6 q7 q8 q9 q10 : Nat × Value} {r : List (Nat × Value)} (pd : Nat) (hd : decode M.2.1 pc = .ok (.lload i, 2)) (hn : pc + 2 = pd) (k : xg_X xs d M (pd) (q0 :: q1 :: q2 :: q3 :: q4 :: q5 :: q6 :: q7 :: q8 :: q9 :: q10 :: (i, .long x) :: r) (.long x :: st) σ Q) : xg_X xs d M (pc) (q0 :: q1 :: q2 :: q3 :: q4 :: q5 :: q6 :: q7 :: q8 :: q9 :: q10 :: (i, .long x) :: r) st σ Q := X_lld_g pd hd hn (by simp) k
theorem X_lld12 {i : Nat} {x : Int64} {q0 q1 q2 q3 q4 q5 q6 q7 q8 q9 q10 q11 : Nat × Value} {r : List (Nat × Value)} (pd : Nat) (hd : decode M.2.1 pc = .ok (.lload i, 2)) (hn : pc + 2 = pd) (k : xg_X xs d M (pd) (q0 :: q1 :: q2 :: q3 :: q4 :: q5 :: q6 :: q7 :: q8 :: q9 :: q10 :: q11 :: (i, .long x) :: r) (.long x :: st) σ Q) : xg_X xs d M (pc) (q0 :: q1 :: q2 :: q3 :: q4 :: q5 :: q6 :: q7 :: q8 :: q9 :: q10 :: q11 :: (i, .long x) :: r) st σ Q := X_lld_g pd hd hn (by simp) k
theorem X_lld13 {i : Nat} {x : Int64} {q0 q1 q2 q3 q4 q5 q6 q7 q8 q9 q10 q11 q12 : Nat × Value} {r : List (Nat × Value)} (pd : Nat) (hd : decode M.2.1 pc = .ok (.lload i, 2)) (hn : pc + 2 = pd) (k : xg_X xs d M (pd) (q0 :: q1 :: q2 :: q3 :: q4 :: q5 :: q6 :: q7 :: q8 :: q9 :: q10 :: q11 :: q12 :: (i, .long x) :: r) (.long x :: st) σ Q) : xg_X xs d M (pc) (q0 :: q1 :: q2 :: q3 :: q4 :: q5 :: q6 :: q7 :: q8 :: q9 :: q10 :: q11 :: q12 :: (i, .long x) :: r) st σ Q := X_lld_g pd hd hn (by simp) k
theorem X_lld14 {i : Nat} {x : Int64} {q0 q1 q2 q3 q4 q5 q6 q7 q8 q9 q10 q11 q12 q13 : Nat × Value} {r : List (Nat × Value)} (pd : Nat) (hd : decode M.2.1 pc = .ok (.lload i, 2)) (hn : pc + 2 = pd) (k : xg_X xs d M (pd) (q0 :: q1 :: q2 :: q3 :: q4 :: q5 :: q6 :: q7 :: q8 :: q9 :: q10 :: q11 :: q12 :: q13 :: (i, .long x) :: r) (.long x :: st) σ Q) : xg_X xs d M (pc) (q0 :: q1 :: q2 :: q3 :: q4 :: q5 :: q6 :: q7 :: q8 :: q9 :: q10 :: q11 :: q12 :: q13 :: (i, .long x) :: r) st σ Q := X_lld_g pd hd hn (by simp) k
theorem X_lldn_g {j : Fin 4} {i : Nat} {x : Int64} (pd : Nat) (hd : decode M.2.1 pc = .ok (.lload_n j, 1)) (hi : (j : Nat) = i) (hn : pc + 1 = pd) (hq : (i, Value.long x) ∈ lv) (k : xg_X xs d M (pd) lv (.long x :: st) σ Q) : xg_X xs d M (pc) lv st σ Q := by
  intro p l e R s m args below meth c cells slots ad G cA Z hT hR H locs ls hP hS hl
  subst hn
  exact lv_lload_n hT.1 hT.2.1 hd hi (hl.2.2 _ (List.mem_map.mpr ⟨_, hq, rfl⟩)) (k p l e R s m args below meth c cells slots ad G cA Z hT hR H locs ls hP hS hl)
theorem X_lldn0 {j : Fin 4} {i : Nat} {x : Int64} {r : List (Nat × Value)} (pd : Nat) (hd : decode M.2.1 pc = .ok (.lload_n j, 1)) (hi : (j : Nat) = i) (hn : pc + 1 = pd) (k : xg_X xs d M (pd) ((i, .long x) :: r) (.long x :: st) σ Q) : xg_X xs d M (pc) ((i, .long x) :: r) st σ Q := X_lldn_g pd hd hi hn (by simp) k
theorem X_lldn1 {j : Fin 4} {i : Nat} {x : Int64} {q0 : Nat × Value} {r : List (Nat × Value)} (pd : Nat) (hd : decode M.2.1 pc = .ok (.lload_n j, 1)) (hi : (j : Nat) = i) (hn : pc + 1 = pd) (k : xg_X xs d M (pd) (q0 :: (i, .long x) :: r) (.long x :: st) σ Q) : xg_X xs d M (pc) (q0 :: (i, .long x) :: r) st σ Q := X_lldn_g pd hd hi hn (by simp) k
theorem X_lldn2 {j : Fin 4} {i : Nat} {x : Int64} {q0 q1 : Nat × Value} {r : List (Nat × Value)} (pd : Nat) (hd : decode M.2.1 pc = .ok (.lload_n j, 1)) (hi : (j : Nat) = i) (hn : pc + 1 = pd) (k : xg_X xs d M (pd) (q0 :: q1 :: (i, .long x) :: r) (.long x :: st) σ Q) : xg_X xs d M (pc) (q0 :: q1 :: (i, .long x) :: r) st σ Q := X_lldn_g pd hd hi hn (by simp) k
theorem X_lldn3 {j : Fin 4} {i : Nat} {x : Int64} {q0 q1 q2 : Nat × Value} {r : List (Nat × Value)} (pd : Nat) (hd : decode M.2.1 pc = .ok (.lload_n j, 1)) (hi : (j : Nat) = i) (hn : pc + 1 = pd) (k : xg_X xs d M (pd) (q0 :: q1 :: q2 :: (i, .long x) :: r) (.long x :: st) σ Q) : xg_X xs d M (pc) (q0 :: q1 :: q2 :: (i, .long x) :: r) st σ Q := X_lldn_g pd hd hi hn (by simp) k
theorem X_lldn4 {j : Fin 4} {i : Nat} {x : Int64} {q0 q1 q2 q3 : Nat × Value} {r : List (Nat × Value)} (pd : Nat) (hd : decode M.2.1 pc = .ok (.lload_n j, 1)) (hi : (j : Nat) = i) (hn : pc + 1 = pd) (k : xg_X xs d M (pd) (q0 :: q1 :: q2 :: q3 :: (i, .long x) :: r) (.long x :: st) σ Q) : xg_X xs d M (pc) (q0 :: q1 :: q2 :: q3 :: (i, .long x) :: r) st σ Q := X_lldn_g pd hd hi hn (by simp) k
theorem X_lldn5 {j : Fin 4} {i : Nat} {x : Int64} {q0 q1 q2 q3 q4 : Nat × Value} {r : List (Nat × Value)} (pd : Nat) (hd : decode M.2.1 pc = .ok (.lload_n j, 1)) (hi : (j : Nat) = i) (hn : pc + 1 = pd) (k : xg_X xs d M (pd) (q0 :: q1 :: q2 :: q3 :: q4 :: (i, .long x) :: r) (.long x :: st) σ Q) : xg_X xs d M (pc) (q0 :: q1 :: q2 :: q3 :: q4 :: (i, .long x) :: r) st σ Q := X_lldn_g pd hd hi hn (by simp) k
theorem X_lldn6 {j : Fin 4} {i : Nat} {x : Int64} {q0 q1 q2 q3 q4 q5 : Nat × Value} {r : List (Nat × Value)} (pd : Nat) (hd : decode M.2.1 pc = .ok (.lload_n j, 1)) (hi : (j : Nat) = i) (hn : pc + 1 = pd) (k : xg_X xs d M (pd) (q0 :: q1 :: q2 :: q3 :: q4 :: q5 :: (i, .long x) :: r) (.long x :: st) σ Q) : xg_X xs d M (pc) (q0 :: q1 :: q2 :: q3 :: q4 :: q5 :: (i, .long x) :: r) st σ Q := X_lldn_g pd hd hi hn (by simp) k
theorem X_lldn7 {j : Fin 4} {i : Nat} {x : Int64} {q0 q1 q2 q3 q4 q5 q6 : Nat × Value} {r : List (Nat × Value)} (pd : Nat) (hd : decode M.2.1 pc = .ok (.lload_n j, 1)) (hi : (j : Nat) = i) (hn : pc + 1 = pd) (k : xg_X xs d M (pd) (q0 :: q1 :: q2 :: q3 :: q4 :: q5 :: q6 :: (i, .long x) :: r) (.long x :: st) σ Q) : xg_X xs d M (pc) (q0 :: q1 :: q2 :: q3 :: q4 :: q5 :: q6 :: (i, .long x) :: r) st σ Q := X_lldn_g pd hd hi hn (by simp) k
theorem X_lldn8 {j : Fin 4} {i : Nat} {x : Int64} {q0 q1 q2 q3 q4 q5 q6 q7 : Nat × Value} {r : List (Nat × Value)} (pd : Nat) (hd : decode M.2.1 pc = .ok (.lload_n j, 1)) (hi : (j : Nat) = i) (hn : pc + 1 = pd) (k : xg_X xs d M (pd) (q0 :: q1 :: q2 :: q3 :: q4 :: q5 :: q6 :: q7 :: (i, .long x) :: r) (.long x :: st) σ Q) : xg_X xs d M (pc) (q0 :: q1 :: q2 :: q3 :: q4 :: q5 :: q6 :: q7 :: (i, .long x) :: r) st σ Q := X_lldn_g pd hd hi hn (by simp) k
theorem X_lldn9 {j : Fin 4} {i : Nat} {x : Int64} {q0 q1 q2 q3 q4 q5 q6 q7 q8 : Nat × Value} {r : List (Nat × Value)} (pd : Nat) (hd : decode M.2.1 pc = .ok (.lload_n j, 1)) (hi : (j : Nat) = i) (hn : pc + 1 = pd) (k : xg_X xs d M (pd) (q0 :: q1 :: q2 :: q3 :: q4 :: q5 :: q6 :: q7 :: q8 :: (i, .long x) :: r) (.long x :: st) σ Q) : xg_X xs d M (pc) (q0 :: q1 :: q2 :: q3 :: q4 :: q5 :: q6 :: q7 :: q8 :: (i, .long x) :: r) st σ Q := X_lldn_g pd hd hi hn (by simp) k
theorem X_lldn10 {j : Fin 4} {i : Nat} {x : Int64} {q0 q1 q2 q3 q4 q5 q6 q7 q8 q9 : Nat × Value} {r : List (Nat × Value)} (pd : Nat) (hd : decode M.2.1 pc = .ok (.lload_n j, 1)) (hi : (j : Nat) = i) (hn : pc + 1 = pd) (k : xg_X xs d M (pd) (q0 :: q1 :: q2 :: q3 :: q4 :: q5 :: q6 :: q7 :: q8 :: q9 :: (i, .long x) :: r) (.long x :: st) σ Q) : xg_X xs d M (pc) (q0 :: q1 :: q2 :: q3 :: q4 :: q5 :: q6 :: q7 :: q8 :: q9 :: (i, .long x) :: r) st σ Q := X_lldn_g pd hd hi hn (by simp) k
theorem X_lldn11 {j : Fin 4} {i : Nat} {x : Int64} {q0 q1 q2 q3 q4 q5 q6 q7 q8 q9 q10 : Nat × Value} {r : List (Nat × Value)} (pd : Nat) (hd : decode M.2.1 pc = .ok (.lload_n j, 1)) (hi : (j : Nat) = i) (hn : pc + 1 = pd) (k : xg_X xs d M (pd) (q0 :: q1 :: q2 :: q3 :: q4 :: q5 :: q6 :: q7 :: q8 :: q9 :: q10 :: (i, .long x) :: r) (.long x :: st) σ Q) : xg_X xs d M (pc) (q0 :: q1 :: q2 :: q3 :: q4 :: q5 :: q6 :: q7 :: q8 :: q9 :: q10 :: (i, .long x) :: r) st σ Q := X_lldn_g pd hd hi hn (by simp) k
theorem X_lldn12 {j : Fin 4} {i : Nat} {x : Int64} {q0 q1 q2 q3 q4 q5 q6 q7 q8 q9 q10 q11 : Nat × Value} {r : List (Nat × Value)} (pd : Nat) (hd : decode M.2.1 pc = .ok (.lload_n j, 1)) (hi : (j : Nat) = i) (hn : pc + 1 = pd) (k : xg_X xs d M (pd) (q0 :: q1 :: q2 :: q3 :: q4 :: q5 :: q6 :: q7 :: q8 :: q9 :: q10 :: q11 :: (i, .long x) :: r) (.long x :: st) σ Q) : xg_X xs d M (pc) (q0 :: q1 :: q2 :: q3 :: q4 :: q5 :: q6 :: q7 :: q8 :: q9 :: q10 :: q11 :: (i, .long x) :: r) st σ Q := X_lldn_g pd hd hi hn (by simp) k
theorem X_lldn13 {j : Fin 4} {i : Nat} {x : Int64} {q0 q1 q2 q3 q4 q5 q6 q7 q8 q9 q10 q11 q12 : Nat × Value} {r : List (Nat × Value)} (pd : Nat) (hd : decode M.2.1 pc = .ok (.lload_n j, 1)) (hi : (j : Nat) = i) (hn : pc + 1 = pd) (k : xg_X xs d M (pd) (q0 :: q1 :: q2 :: q3 :: q4 :: q5 :: q6 :: q7 :: q8 :: q9 :: q10 :: q11 :: q12 :: (i, .long x) :: r) (.long x :: st) σ Q) : xg_X xs d M (pc) (q0 :: q1 :: q2 :: q3 :: q4 :: q5 :: q6 :: q7 :: q8 :: q9 :: q10 :: q11 :: q12 :: (i, .long x) :: r) st σ Q := X_lldn_g pd hd hi hn (by simp) k
theorem X_lldn14 {j : Fin 4} {i : Nat} {x : Int64} {q0 q1 q2 q3 q4 q5 q6 q7 q8 q9 q10 q11 q12 q13 : Nat × Value} {r : List (Nat × Value)} (pd : Nat) (hd : decode M.2.1 pc = .ok (.lload_n j, 1)) (hi : (j : Nat) = i) (hn : pc + 1 = pd) (k : xg_X xs d M (pd) (q0 :: q1 :: q2 :: q3 :: q4 :: q5 :: q6 :: q7 :: q8 :: q9 :: q10 :: q11 :: q12 :: q13 :: (i, .long x) :: r) (.long x :: st) σ Q) : xg_X xs d M (pc) (q0 :: q1 :: q2 :: q3 :: q4 :: q5 :: q6 :: q7 :: q8 :: q9 :: q10 :: q11 :: q12 :: q13 :: (i, .long x) :: r) st σ Q := X_lldn_g pd hd hi hn (by simp) k
theorem X_ald_g {i : Nat} {x : Nat} (pd : Nat) (hd : decode M.2.1 pc = .ok (.aload i, 2)) (hn : pc + 2 = pd) (hq : (i, Value.ref x) ∈ lv) (k : xg_X xs d M (pd) lv (.ref x :: st) σ Q) : xg_X xs d M (pc) lv st σ Q := by
  intro p l e R s m args below meth c cells slots ad G cA Z hT hR H locs ls hP hS hl
  subst hn
  exact lv_aload hT.1 hT.2.1 hd (hl.2.2 _ (List.mem_map.mpr ⟨_, hq, rfl⟩)) (k p l e R s m args below meth c cells slots ad G cA Z hT hR H locs ls hP hS hl)
theorem X_ald0 {i : Nat} {x : Nat} {r : List (Nat × Value)} (pd : Nat) (hd : decode M.2.1 pc = .ok (.aload i, 2)) (hn : pc + 2 = pd) (k : xg_X xs d M (pd) ((i, .ref x) :: r) (.ref x :: st) σ Q) : xg_X xs d M (pc) ((i, .ref x) :: r) st σ Q := X_ald_g pd hd hn (by simp) k
theorem X_ald1 {i : Nat} {x : Nat} {q0 : Nat × Value} {r : List (Nat × Value)} (pd : Nat) (hd : decode M.2.1 pc = .ok (.aload i, 2)) (hn : pc + 2 = pd) (k : xg_X xs d M (pd) (q0 :: (i, .ref x) :: r) (.ref x :: st) σ Q) : xg_X xs d M (pc) (q0 :: (i, .ref x) :: r) st σ Q := X_ald_g pd hd hn (by simp) k
theorem X_ald2 {i : Nat} {x : Nat} {q0 q1 : Nat × Value} {r : List (Nat × Value)} (pd : Nat) (hd : decode M.2.1 pc = .ok (.aload i, 2)) (hn : pc + 2 = pd) (k : xg_X xs d M (pd) (q0 :: q1 :: (i, .ref x) :: r) (.ref x :: st) σ Q) : xg_X xs d M (pc) (q0 :: q1 :: (i, .ref x) :: r) st σ Q := X_ald_g pd hd hn (by simp) k
theorem X_ald3 {i : Nat} {x : Nat} {q0 q1 q2 : Nat × Value} {r : List (Nat × Value)} (pd : Nat) (hd : decode M.2.1 pc = .ok (.aload i, 2)) (hn : pc + 2 = pd) (k : xg_X xs d M (pd) (q0 :: q1 :: q2 :: (i, .ref x) :: r) (.ref x :: st) σ Q) : xg_X xs d M (pc) (q0 :: q1 :: q2 :: (i, .ref x) :: r) st σ Q := X_ald_g pd hd hn (by simp) k
theorem X_ald4 {i : Nat} {x : Nat} {q0 q1 q2 q3 : Nat × Value} {r : List (Nat × Value)} (pd : Nat) (hd : decode M.2.1 pc = .ok (.aload i, 2)) (hn : pc + 2 = pd) (k : xg_X xs d M (pd) (q0 :: q1 :: q2 :: q3 :: (i, .ref x) :: r) (.ref x :: st) σ Q) : xg_X xs d M (pc) (q0 :: q1 :: q2 :: q3 :: (i, .ref x) :: r) st σ Q := X_ald_g pd hd hn (by simp) k
theorem X_ald5 {i : Nat} {x : Nat} {q0 q1 q2 q3 q4 : Nat × Value} {r : List (Nat × Value)} (pd : Nat) (hd : decode M.2.1 pc = .ok (.aload i, 2)) (hn : pc + 2 = pd) (k : xg_X xs d M (pd) (q0 :: q1 :: q2 :: q3 :: q4 :: (i, .ref x) :: r) (.ref x :: st) σ Q) : xg_X xs d M (pc) (q0 :: q1 :: q2 :: q3 :: q4 :: (i, .ref x) :: r) st σ Q := X_ald_g pd hd hn (by simp) k
theorem X_ald6 {i : Nat} {x : Nat} {q0 q1 q2 q3 q4 q5 : Nat × Value} {r : List (Nat × Value)} (pd : Nat) (hd : decode M.2.1 pc = .ok (.aload i, 2)) (hn : pc + 2 = pd) (k : xg_X xs d M (pd) (q0 :: q1 :: q2 :: q3 :: q4 :: q5 :: (i, .ref x) :: r) (.ref x :: st) σ Q) : xg_X xs d M (pc) (q0 :: q1 :: q2 :: q3 :: q4 :: q5 :: (i, .ref x) :: r) st σ Q := X_ald_g pd hd hn (by simp) k
theorem X_ald7 {i : Nat} {x : Nat} {q0 q1 q2 q3 q4 q5 q6 : Nat × Value} {r : List (Nat × Value)} (pd : Nat) (hd : decode M.2.1 pc = .ok (.aload i, 2)) (hn : pc + 2 = pd) (k : xg_X xs d M (pd) (q0 :: q1 :: q2 :: q3 :: q4 :: q5 :: q6 :: (i, .ref x) :: r) (.ref x :: st) σ Q) : xg_X xs d M (pc) (q0 :: q1 :: q2 :: q3 :: q4 :: q5 :: q6 :: (i, .ref x) :: r) st σ Q := X_ald_g pd hd hn (by simp) k
theorem X_ald8 {i : Nat} {x : Nat} {q0 q1 q2 q3 q4 q5 q6 q7 : Nat × Value} {r : List (Nat × Value)} (pd : Nat) (hd : decode M.2.1 pc = .ok (.aload i, 2)) (hn : pc + 2 = pd) (k : xg_X xs d M (pd) (q0 :: q1 :: q2 :: q3 :: q4 :: q5 :: q6 :: q7 :: (i, .ref x) :: r) (.ref x :: st) σ Q) : xg_X xs d M (pc) (q0 :: q1 :: q2 :: q3 :: q4 :: q5 :: q6 :: q7 :: (i, .ref x) :: r) st σ Q := X_ald_g pd hd hn (by simp) k
theorem X_ald9 {i : Nat} {x : Nat} {q0 q1 q2 q3 q4 q5 q6 q7 q8 : Nat × Value} {r : List (Nat × Value)} (pd : Nat) (hd : decode M.2.1 pc = .ok (.aload i, 2)) (hn : pc + 2 = pd) (k : xg_X xs d M (pd) (q0 :: q1 :: q2 :: q3 :: q4 :: q5 :: q6 :: q7 :: q8 :: (i, .ref x) :: r) (.ref x :: st) σ Q) : xg_X xs d M (pc) (q0 :: q1 :: q2 :: q3 :: q4 :: q5 :: q6 :: q7 :: q8 :: (i, .ref x) :: r) st σ Q := X_ald_g pd hd hn (by simp) k
theorem X_ald10 {i : Nat} {x : Nat} {q0 q1 q2 q3 q4 q5 q6 q7 q8 q9 : Nat × Value} {r : List (Nat × Value)} (pd : Nat) (hd : decode M.2.1 pc = .ok (.aload i, 2)) (hn : pc + 2 = pd) (k : xg_X xs d M (pd) (q0 :: q1 :: q2 :: q3 :: q4 :: q5 :: q6 :: q7 :: q8 :: q9 :: (i, .ref x) :: r) (.ref x :: st) σ Q) : xg_X xs d M (pc) (q0 :: q1 :: q2 :: q3 :: q4 :: q5 :: q6 :: q7 :: q8 :: q9 :: (i, .ref x) :: r) st σ Q := X_ald_g pd hd hn (by simp) k
theorem X_ald11 {i : Nat} {x : Nat} {q0 q1 q2 q3 q4 q5 q6 q7 q8 q9 q10 : Nat × Value} {r : List (Nat × Value)} (pd : Nat) (hd : decode M.2.1 pc = .ok (.aload i, 2)) (hn : pc + 2 = pd) (k : xg_X xs d M (pd) (q0 :: q1 :: q2 :: q3 :: q4 :: q5 :: q6 :: q7 :: q8 :: q9 :: q10 :: (i, .ref x) :: r) (.ref x :: st) σ Q) : xg_X xs d M (pc) (q0 :: q1 :: q2 :: q3 :: q4 :: q5 :: q6 :: q7 :: q8 :: q9 :: q10 :: (i, .ref x) :: r) st σ Q := X_ald_g pd hd hn (by simp) k
theorem X_ald12 {i : Nat} {x : Nat} {q0 q1 q2 q3 q4 q5 q6 q7 q8 q9 q10 q11 : Nat × Value} {r : List (Nat × Value)} (pd : Nat) (hd : decode M.2.1 pc = .ok (.aload i, 2)) (hn : pc + 2 = pd) (k : xg_X xs d M (pd) (q0 :: q1 :: q2 :: q3 :: q4 :: q5 :: q6 :: q7 :: q8 :: q9 :: q10 :: q11 :: (i, .ref x) :: r) (.ref x :: st) σ Q) : xg_X xs d M (pc) (q0 :: q1 :: q2 :: q3 :: q4 :: q5 :: q6 :: q7 :: q8 :: q9 :: q10 :: q11 :: (i, .ref x) :: r) st σ Q := X_ald_g pd hd hn (by simp) k
theorem X_ald13 {i : Nat} {x : Nat} {q0 q1 q2 q3 q4 q5 q6 q7 q8 q9 q10 q11 q12 : Nat × Value} {r : List (Nat × Value)} (pd : Nat) (hd : decode M.2.1 pc = .ok (.aload i, 2)) (hn : pc + 2 = pd) (k : xg_X xs d M (pd) (q0 :: q1 :: q2 :: q3 :: q4 :: q5 :: q6 :: q7 :: q8 :: q9 :: q10 :: q11 :: q12 :: (i, .ref x) :: r) (.ref x :: st) σ Q) : xg_X xs d M (pc) (q0 :: q1 :: q2 :: q3 :: q4 :: q5 :: q6 :: q7 :: q8 :: q9 :: q10 :: q11 :: q12 :: (i, .ref x) :: r) st σ Q := X_ald_g pd hd hn (by simp) k
theorem X_ald14 {i : Nat} {x : Nat} {q0 q1 q2 q3 q4 q5 q6 q7 q8 q9 q10 q11 q12 q13 : Nat × Value} {r : List (Nat × Value)} (pd : Nat) (hd : decode M.2.1 pc = .ok (.aload i, 2)) (hn : pc + 2 = pd) (k : xg_X xs d M (pd) (q0 :: q1 :: q2 :: q3 :: q4 :: q5 :: q6 :: q7 :: q8 :: q9 :: q10 :: q11 :: q12 :: q13 :: (i, .ref x) :: r) (.ref x :: st) σ Q) : xg_X xs d M (pc) (q0 :: q1 :: q2 :: q3 :: q4 :: q5 :: q6 :: q7 :: q8 :: q9 :: q10 :: q11 :: q12 :: q13 :: (i, .ref x) :: r) st σ Q := X_ald_g pd hd hn (by simp) k
theorem X_aldn_g {j : Fin 4} {i : Nat} {x : Nat} (pd : Nat) (hd : decode M.2.1 pc = .ok (.aload_n j, 1)) (hi : (j : Nat) = i) (hn : pc + 1 = pd) (hq : (i, Value.ref x) ∈ lv) (k : xg_X xs d M (pd) lv (.ref x :: st) σ Q) : xg_X xs d M (pc) lv st σ Q := by
  intro p l e R s m args below meth c cells slots ad G cA Z hT hR H locs ls hP hS hl
  subst hn
  exact lv_aload_n hT.1 hT.2.1 hd hi (hl.2.2 _ (List.mem_map.mpr ⟨_, hq, rfl⟩)) (k p l e R s m args below meth c cells slots ad G cA Z hT hR H locs ls hP hS hl)
theorem X_aldn0 {j : Fin 4} {i : Nat} {x : Nat} {r : List (Nat × Value)} (pd : Nat) (hd : decode M.2.1 pc = .ok (.aload_n j, 1)) (hi : (j : Nat) = i) (hn : pc + 1 = pd) (k : xg_X xs d M (pd) ((i, .ref x) :: r) (.ref x :: st) σ Q) : xg_X xs d M (pc) ((i, .ref x) :: r) st σ Q := X_aldn_g pd hd hi hn (by simp) k
theorem X_aldn1 {j : Fin 4} {i : Nat} {x : Nat} {q0 : Nat × Value} {r : List (Nat × Value)} (pd : Nat) (hd : decode M.2.1 pc = .ok (.aload_n j, 1)) (hi : (j : Nat) = i) (hn : pc + 1 = pd) (k : xg_X xs d M (pd) (q0 :: (i, .ref x) :: r) (.ref x :: st) σ Q) : xg_X xs d M (pc) (q0 :: (i, .ref x) :: r) st σ Q := X_aldn_g pd hd hi hn (by simp) k
theorem X_aldn2 {j : Fin 4} {i : Nat} {x : Nat} {q0 q1 : Nat × Value} {r : List (Nat × Value)} (pd : Nat) (hd : decode M.2.1 pc = .ok (.aload_n j, 1)) (hi : (j : Nat) = i) (hn : pc + 1 = pd) (k : xg_X xs d M (pd) (q0 :: q1 :: (i, .ref x) :: r) (.ref x :: st) σ Q) : xg_X xs d M (pc) (q0 :: q1 :: (i, .ref x) :: r) st σ Q := X_aldn_g pd hd hi hn (by simp) k
theorem X_aldn3 {j : Fin 4} {i : Nat} {x : Nat} {q0 q1 q2 : Nat × Value} {r : List (Nat × Value)} (pd : Nat) (hd : decode M.2.1 pc = .ok (.aload_n j, 1)) (hi : (j : Nat) = i) (hn : pc + 1 = pd) (k : xg_X xs d M (pd) (q0 :: q1 :: q2 :: (i, .ref x) :: r) (.ref x :: st) σ Q) : xg_X xs d M (pc) (q0 :: q1 :: q2 :: (i, .ref x) :: r) st σ Q := X_aldn_g pd hd hi hn (by simp) k
theorem X_aldn4 {j : Fin 4} {i : Nat} {x : Nat} {q0 q1 q2 q3 : Nat × Value} {r : List (Nat × Value)} (pd : Nat) (hd : decode M.2.1 pc = .ok (.aload_n j, 1)) (hi : (j : Nat) = i) (hn : pc + 1 = pd) (k : xg_X xs d M (pd) (q0 :: q1 :: q2 :: q3 :: (i, .ref x) :: r) (.ref x :: st) σ Q) : xg_X xs d M (pc) (q0 :: q1 :: q2 :: q3 :: (i, .ref x) :: r) st σ Q := X_aldn_g pd hd hi hn (by simp) k
theorem X_aldn5 {j : Fin 4} {i : Nat} {x : Nat} {q0 q1 q2 q3 q4 : Nat × Value} {r : List (Nat × Value)} (pd : Nat) (hd : decode M.2.1 pc = .ok (.aload_n j, 1)) (hi : (j : Nat) = i) (hn : pc + 1 = pd) (k : xg_X xs d M (pd) (q0 :: q1 :: q2 :: q3 :: q4 :: (i, .ref x) :: r) (.ref x :: st) σ Q) : xg_X xs d M (pc) (q0 :: q1 :: q2 :: q3 :: q4 :: (i, .ref x) :: r) st σ Q := X_aldn_g pd hd hi hn (by simp) k
theorem X_aldn6 {j : Fin 4} {i : Nat} {x : Nat} {q0 q1 q2 q3 q4 q5 : Nat × Value} {r : List (Nat × Value)} (pd : Nat) (hd : decode M.2.1 pc = .ok (.aload_n j, 1)) (hi : (j : Nat) = i) (hn : pc + 1 = pd) (k : xg_X xs d M (pd) (q0 :: q1 :: q2 :: q3 :: q4 :: q5 :: (i, .ref x) :: r) (.ref x :: st) σ Q) : xg_X xs d M (pc) (q0 :: q1 :: q2 :: q3 :: q4 :: q5 :: (i, .ref x) :: r) st σ Q := X_aldn_g pd hd hi hn (by simp) k
theorem X_aldn7 {j : Fin 4} {i : Nat} {x : Nat} {q0 q1 q2 q3 q4 q5 q6 : Nat × Value} {r : List (Nat × Value)} (pd : Nat) (hd : decode M.2.1 pc = .ok (.aload_n j, 1)) (hi : (j : Nat) = i) (hn : pc + 1 = pd) (k : xg_X xs d M (pd) (q0 :: q1 :: q2 :: q3 :: q4 :: q5 :: q6 :: (i, .ref x) :: r) (.ref x :: st) σ Q) : xg_X xs d M (pc) (q0 :: q1 :: q2 :: q3 :: q4 :: q5 :: q6 :: (i, .ref x) :: r) st σ Q := X_aldn_g pd hd hi hn (by simp) k
theorem X_aldn8 {j : Fin 4} {i : Nat} {x : Nat} {q0 q1 q2 q3 q4 q5 q6 q7 : Nat × Value} {r : List (Nat × Value)} (pd : Nat) (hd : decode M.2.1 pc = .ok (.aload_n j, 1)) (hi : (j : Nat) = i) (hn : pc + 1 = pd) (k : xg_X xs d M (pd) (q0 :: q1 :: q2 :: q3 :: q4 :: q5 :: q6 :: q7 :: (i, .ref x) :: r) (.ref x :: st) σ Q) : xg_X xs d M (pc) (q0 :: q1 :: q2 :: q3 :: q4 :: q5 :: q6 :: q7 :: (i, .ref x) :: r) st σ Q := X_aldn_g pd hd hi hn (by simp) k
theorem X_aldn9 {j : Fin 4} {i : Nat} {x : Nat} {q0 q1 q2 q3 q4 q5 q6 q7 q8 : Nat × Value} {r : List (Nat × Value)} (pd : Nat) (hd : decode M.2.1 pc = .ok (.aload_n j, 1)) (hi : (j : Nat) = i) (hn : pc + 1 = pd) (k : xg_X xs d M (pd) (q0 :: q1 :: q2 :: q3 :: q4 :: q5 :: q6 :: q7 :: q8 :: (i, .ref x) :: r) (.ref x :: st) σ Q) : xg_X xs d M (pc) (q0 :: q1 :: q2 :: q3 :: q4 :: q5 :: q6 :: q7 :: q8 :: (i, .ref x) :: r) st σ Q := X_aldn_g pd hd hi hn (by simp) k
theorem X_aldn10 {j : Fin 4} {i : Nat} {x : Nat} {q0 q1 q2 q3 q4 q5 q6 q7 q8 q9 : Nat × Value} {r : List (Nat × Value)} (pd : Nat) (hd : decode M.2.1 pc = .ok (.aload_n j, 1)) (hi : (j : Nat) = i) (hn : pc + 1 = pd) (k : xg_X xs d M (pd) (q0 :: q1 :: q2 :: q3 :: q4 :: q5 :: q6 :: q7 :: q8 :: q9 :: (i, .ref x) :: r) (.ref x :: st) σ Q) : xg_X xs d M (pc) (q0 :: q1 :: q2 :: q3 :: q4 :: q5 :: q6 :: q7 :: q8 :: q9 :: (i, .ref x) :: r) st σ Q := X_aldn_g pd hd hi hn (by simp) k
theorem X_aldn11 {j : Fin 4} {i : Nat} {x : Nat} {q0 q1 q2 q3 q4 q5 q6 q7 q8 q9 q10 : Nat × Value} {r : List (Nat × Value)} (pd : Nat) (hd : decode M.2.1 pc = .ok (.aload_n j, 1)) (hi : (j : Nat) = i) (hn : pc + 1 = pd) (k : xg_X xs d M (pd) (q0 :: q1 :: q2 :: q3 :: q4 :: q5 :: q6 :: q7 :: q8 :: q9 :: q10 :: (i, .ref x) :: r) (.ref x :: st) σ Q) : xg_X xs d M (pc) (q0 :: q1 :: q2 :: q3 :: q4 :: q5 :: q6 :: q7 :: q8 :: q9 :: q10 :: (i, .ref x) :: r) st σ Q := X_aldn_g pd hd hi hn (by simp) k
theorem X_aldn12 {j : Fin 4} {i : Nat} {x : Nat} {q0 q1 q2 q3 q4 q5 q6 q7 q8 q9 q10 q11 : Nat × Value} {r : List (Nat × Value)} (pd : Nat) (hd : decode M.2.1 pc = .ok (.aload_n j, 1)) (hi : (j : Nat) = i) (hn : pc + 1 = pd) (k : xg_X xs d M (pd) (q0 :: q1 :: q2 :: q3 :: q4 :: q5 :: q6 :: q7 :: q8 :: q9 :: q10 :: q11 :: (i, .ref x) :: r) (.ref x :: st) σ Q) : xg_X xs d M (pc) (q0 :: q1 :: q2 :: q3 :: q4 :: q5 :: q6 :: q7 :: q8 :: q9 :: q10 :: q11 :: (i, .ref x) :: r) st σ Q := X_aldn_g pd hd hi hn (by simp) k
theorem X_aldn13 {j : Fin 4} {i : Nat} {x : Nat} {q0 q1 q2 q3 q4 q5 q6 q7 q8 q9 q10 q11 q12 : Nat × Value} {r : List (Nat × Value)} (pd : Nat) (hd : decode M.2.1 pc = .ok (.aload_n j, 1)) (hi : (j : Nat) = i) (hn : pc + 1 = pd) (k : xg_X xs d M (pd) (q0 :: q1 :: q2 :: q3 :: q4 :: q5 :: q6 :: q7 :: q8 :: q9 :: q10 :: q11 :: q12 :: (i, .ref x) :: r) (.ref x :: st) σ Q) : xg_X xs d M (pc) (q0 :: q1 :: q2 :: q3 :: q4 :: q5 :: q6 :: q7 :: q8 :: q9 :: q10 :: q11 :: q12 :: (i, .ref x) :: r) st σ Q := X_aldn_g pd hd hi hn (by simp) k
theorem X_aldn14 {j : Fin 4} {i : Nat} {x : Nat} {q0 q1 q2 q3 q4 q5 q6 q7 q8 q9 q10 q11 q12 q13 : Nat × Value} {r : List (Nat × Value)} (pd : Nat) (hd : decode M.2.1 pc = .ok (.aload_n j, 1)) (hi : (j : Nat) = i) (hn : pc + 1 = pd) (k : xg_X xs d M (pd) (q0 :: q1 :: q2 :: q3 :: q4 :: q5 :: q6 :: q7 :: q8 :: q9 :: q10 :: q11 :: q12 :: q13 :: (i, .ref x) :: r) (.ref x :: st) σ Q) : xg_X xs d M (pc) (q0 :: q1 :: q2 :: q3 :: q4 :: q5 :: q6 :: q7 :: q8 :: q9 :: q10 :: q11 :: q12 :: q13 :: (i, .ref x) :: r) st σ Q := X_aldn_g pd hd hi hn (by simp) k
def xl_k (i w : Nat) (q : Nat × Value) : Bool := !(q.1 == i) && (!(q.1 + 1 == i && q.2.category == 2) && !(w == 2 && q.1 == i + 1))
theorem xl_has {ls : Array Slot} {n i w : Nat} {v : Value} {lv lw : List (Nat × Value)} {ad : Nat → Nat} {f : Nat × Value → Bool} (hw : ∀ q, xl_k i w q = true → f (q.1, xv ad q.2) = true) (h : lv_has ls n ((i, xv ad v) :: (lv.map (fun q => (q.1, xv ad q.2))).filter f)) (hs : ∀ q ∈ lw, q = (i, v) ∨ (q ∈ lv ∧ xl_k i w q = true)) : lv_has ls n (lw.map (fun q => (q.1, xv ad q.2))) := by
  refine ⟨h.1, h.2.1, fun q hq => ?_⟩
  obtain ⟨q0, h0, rfl⟩ := List.mem_map.mp hq
  rcases hs q0 h0 with rfl | ⟨h1, h2⟩
  · exact h.2.2 _ List.mem_cons_self
  · exact h.2.2 _ (List.mem_cons_of_mem _ (List.mem_filter.mpr ⟨List.mem_map.mpr ⟨q0, h1, rfl⟩, hw q0 h2⟩))
theorem xl_rep {i w : Nat} {v0 v : Value} {pre r : List (Nat × Value)} (ho : (pre ++ r).all (xl_k i w) = true) {q : Nat × Value} (hq : q ∈ pre ++ (i, v) :: r) : q = (i, v) ∨ (q ∈ pre ++ (i, v0) :: r ∧ xl_k i w q = true) := by
  have h := List.all_eq_true.mp ho q
  rcases List.mem_append.mp hq with h1 | h1
  · exact Or.inr ⟨List.mem_append_left _ h1, h (List.mem_append_left _ h1)⟩
  · rcases List.mem_cons.mp h1 with h2 | h2
    · exact Or.inl h2
    · exact Or.inr ⟨List.mem_append_right _ (List.mem_cons_of_mem _ h2), h (List.mem_append_right _ h2)⟩
theorem X_ist_g {i : Nat} {x : Int32} {lw : List (Nat × Value)} (pd : Nat) (hd : decode M.2.1 pc = .ok (.istore i, 2)) (hn : pc + 2 = pd) (hm : i < M.2.2.1) (hs : ∀ q ∈ lw, q = (i, Value.int x) ∨ (q ∈ lv ∧ xl_k i 1 q = true)) (k : xg_X xs d M (pd) lw st σ Q) : xg_X xs d M (pc) lv (.int x :: st) σ Q := by
  intro p l e R s m args below meth c cells slots ad G cA Z hT hR H locs ls hP hS hl
  subst hn
  refine lv_istore hT.1 hT.2.1 hd hl hm rfl (fun ls hl => ?_)
  have hl := xl_has (w := 1) (v := .int x) (fun q hq => by simp only [xl_k, Bool.and_eq_true, Bool.not_eq_true', Bool.and_eq_false_iff, beq_eq_false_iff_ne, ne_eq, xv_cat] at hq ⊢; simp_all) hl hs
  exact k p l e R s m args below meth c cells slots ad G cA Z hT hR H locs ls hP hS hl
theorem X_istN {i : Nat} {x : Int32} (pd : Nat) (hd : decode M.2.1 pc = .ok (.istore i, 2)) (hn : pc + 2 = pd) (hm : Nat.ble (i + 1) M.2.2.1 = true) (ho : lv.all (xl_k i 1) = true) (k : xg_X xs d M (pd) ((i, .int x) :: lv) st σ Q) : xg_X xs d M (pc) lv (.int x :: st) σ Q := X_ist_g pd hd hn (Nat.le_of_ble_eq_true hm) (fun q hq => (List.mem_cons.mp hq).imp id (fun h => ⟨h, List.all_eq_true.mp ho q h⟩)) k
theorem X_ist0 {i : Nat} {v0 : Value} {x : Int32} {r : List (Nat × Value)} (pd : Nat) (hd : decode M.2.1 pc = .ok (.istore i, 2)) (hn : pc + 2 = pd) (hm : Nat.ble (i + 1) M.2.2.1 = true) (ho : List.all (r) (xl_k i 1) = true) (k : xg_X xs d M (pd) ((i, .int x) :: r) st σ Q) : xg_X xs d M (pc) ((i, v0) :: r) (.int x :: st) σ Q := X_ist_g pd hd hn (Nat.le_of_ble_eq_true hm) (fun q hq => xl_rep (pre := []) ho hq) k
theorem X_ist1 {i : Nat} {v0 : Value} {x : Int32} {q0 : Nat × Value} {r : List (Nat × Value)} (pd : Nat) (hd : decode M.2.1 pc = .ok (.istore i, 2)) (hn : pc + 2 = pd) (hm : Nat.ble (i + 1) M.2.2.1 = true) (ho : List.all (q0 :: r) (xl_k i 1) = true) (k : xg_X xs d M (pd) (q0 :: (i, .int x) :: r) st σ Q) : xg_X xs d M (pc) (q0 :: (i, v0) :: r) (.int x :: st) σ Q := X_ist_g pd hd hn (Nat.le_of_ble_eq_true hm) (fun q hq => xl_rep (pre := [q0]) ho hq) k
theorem X_ist2 {i : Nat} {v0 : Value} {x : Int32} {q0 q1 : Nat × Value} {r : List (Nat × Value)} (pd : Nat) (hd : decode M.2.1 pc = .ok (.istore i, 2)) (hn : pc + 2 = pd) (hm : Nat.ble (i + 1) M.2.2.1 = true) (ho : List.all (q0 :: q1 :: r) (xl_k i 1) = true) (k : xg_X xs d M (pd) (q0 :: q1 :: (i, .int x) :: r) st σ Q) : xg_X xs d M (pc) (q0 :: q1 :: (i, v0) :: r) (.int x :: st) σ Q := X_ist_g pd hd hn (Nat.le_of_ble_eq_true hm) (fun q hq => xl_rep (pre := [q0, q1]) ho hq) k
theorem X_ist3 {i : Nat} {v0 : Value} {x : Int32} {q0 q1 q2 : Nat × Value} {r : List (Nat × Value)} (pd : Nat) (hd : decode M.2.1 pc = .ok (.istore i, 2)) (hn : pc + 2 = pd) (hm : Nat.ble (i + 1) M.2.2.1 = true) (ho : List.all (q0 :: q1 :: q2 :: r) (xl_k i 1) = true) (k : xg_X xs d M (pd) (q0 :: q1 :: q2 :: (i, .int x) :: r) st σ Q) : xg_X xs d M (pc) (q0 :: q1 :: q2 :: (i, v0) :: r) (.int x :: st) σ Q := X_ist_g pd hd hn (Nat.le_of_ble_eq_true hm) (fun q hq => xl_rep (pre := [q0, q1, q2]) ho hq) k
theorem X_ist4 {i : Nat} {v0 : Value} {x : Int32} {q0 q1 q2 q3 : Nat × Value} {r : List (Nat × Value)} (pd : Nat) (hd : decode M.2.1 pc = .ok (.istore i, 2)) (hn : pc + 2 = pd) (hm : Nat.ble (i + 1) M.2.2.1 = true) (ho : List.all (q0 :: q1 :: q2 :: q3 :: r) (xl_k i 1) = true) (k : xg_X xs d M (pd) (q0 :: q1 :: q2 :: q3 :: (i, .int x) :: r) st σ Q) : xg_X xs d M (pc) (q0 :: q1 :: q2 :: q3 :: (i, v0) :: r) (.int x :: st) σ Q := X_ist_g pd hd hn (Nat.le_of_ble_eq_true hm) (fun q hq => xl_rep (pre := [q0, q1, q2, q3]) ho hq) k
theorem X_ist5 {i : Nat} {v0 : Value} {x : Int32} {q0 q1 q2 q3 q4 : Nat × Value} {r : List (Nat × Value)} (pd : Nat) (hd : decode M.2.1 pc = .ok (.istore i, 2)) (hn : pc + 2 = pd) (hm : Nat.ble (i + 1) M.2.2.1 = true) (ho : List.all (q0 :: q1 :: q2 :: q3 :: q4 :: r) (xl_k i 1) = true) (k : xg_X xs d M (pd) (q0 :: q1 :: q2 :: q3 :: q4 :: (i, .int x) :: r) st σ Q) : xg_X xs d M (pc) (q0 :: q1 :: q2 :: q3 :: q4 :: (i, v0) :: r) (.int x :: st) σ Q := X_ist_g pd hd hn (Nat.le_of_ble_eq_true hm) (fun q hq => xl_rep (pre := [q0, q1, q2, q3, q4]) ho hq) k
theorem X_ist6 {i : Nat} {v0 : Value} {x : Int32} {q0 q1 q2 q3 q4 q5 : Nat × Value} {r : List (Nat × Value)} (pd : Nat) (hd : decode M.2.1 pc = .ok (.istore i, 2)) (hn : pc + 2 = pd) (hm : Nat.ble (i + 1) M.2.2.1 = true) (ho : List.all (q0 :: q1 :: q2 :: q3 :: q4 :: q5 :: r) (xl_k i 1) = true) (k : xg_X xs d M (pd) (q0 :: q1 :: q2 :: q3 :: q4 :: q5 :: (i, .int x) :: r) st σ Q) : xg_X xs d M (pc) (q0 :: q1 :: q2 :: q3 :: q4 :: q5 :: (i, v0) :: r) (.int x :: st) σ Q := X_ist_g pd hd hn (Nat.le_of_ble_eq_true hm) (fun q hq => xl_rep (pre := [q0, q1, q2, q3, q4, q5]) ho hq) k
theorem X_ist7 {i : Nat} {v0 : Value} {x : Int32} {q0 q1 q2 q3 q4 q5 q6 : Nat × Value} {r : List (Nat × Value)} (pd : Nat) (hd : decode M.2.1 pc = .ok (.istore i, 2)) (hn : pc + 2 = pd) (hm : Nat.ble (i + 1) M.2.2.1 = true) (ho : List.all (q0 :: q1 :: q2 :: q3 :: q4 :: q5 :: q6 :: r) (xl_k i 1) = true) (k : xg_X xs d M (pd) (q0 :: q1 :: q2 :: q3 :: q4 :: q5 :: q6 :: (i, .int x) :: r) st σ Q) : xg_X xs d M (pc) (q0 :: q1 :: q2 :: q3 :: q4 :: q5 :: q6 :: (i, v0) :: r) (.int x :: st) σ Q := X_ist_g pd hd hn (Nat.le_of_ble_eq_true hm) (fun q hq => xl_rep (pre := [q0, q1, q2, q3, q4, q5, q6]) ho hq) k
theorem X_ist8 {i : Nat} {v0 : Value} {x : Int32} {q0 q1 q2 q3 q4 q5 q6 q7 : Nat × Value} {r : List (Nat × Value)} (pd : Nat) (hd : decode M.2.1 pc = .ok (.istore i, 2)) (hn : pc + 2 = pd) (hm : Nat.ble (i + 1) M.2.2.1 = true) (ho : List.all (q0 :: q1 :: q2 :: q3 :: q4 :: q5 :: q6 :: q7 :: r) (xl_k i 1) = true) (k : xg_X xs d M (pd) (q0 :: q1 :: q2 :: q3 :: q4 :: q5 :: q6 :: q7 :: (i, .int x) :: r) st σ Q) : xg_X xs d M (pc) (q0 :: q1 :: q2 :: q3 :: q4 :: q5 :: q6 :: q7 :: (i, v0) :: r) (.int x :: st) σ Q := X_ist_g pd hd hn (Nat.le_of_ble_eq_true hm) (fun q hq => xl_rep (pre := [q0, q1, q2, q3, q4, q5, q6, q7]) ho hq) k
theorem X_ist9 {i : Nat} {v0 : Value} {x : Int32} {q0 q1 q2 q3 q4 q5 q6 q7 q8 : Nat × Value} {r : List (Nat × Value)} (pd : Nat) (hd : decode M.2.1 pc = .ok (.istore i, 2)) (hn : pc + 2 = pd) (hm : Nat.ble (i + 1) M.2.2.1 = true) (ho : List.all (q0 :: q1 :: q2 :: q3 :: q4 :: q5 :: q6 :: q7 :: q8 :: r) (xl_k i 1) = true) (k : xg_X xs d M (pd) (q0 :: q1 :: q2 :: q3 :: q4 :: q5 :: q6 :: q7 :: q8 :: (i, .int x) :: r) st σ Q) : xg_X xs d M (pc) (q0 :: q1 :: q2 :: q3 :: q4 :: q5 :: q6 :: q7 :: q8 :: (i, v0) :: r) (.int x :: st) σ Q := X_ist_g pd hd hn (Nat.le_of_ble_eq_true hm) (fun q hq => xl_rep (pre := [q0, q1, q2, q3, q4, q5, q6, q7, q8]) ho hq) k
theorem X_ist10 {i : Nat} {v0 : Value} {x : Int32} {q0 q1 q2 q3 q4 q5 q6 q7 q8 q9 : Nat × Value} {r : List (Nat × Value)} (pd : Nat) (hd : decode M.2.1 pc = .ok (.istore i, 2)) (hn : pc + 2 = pd) (hm : Nat.ble (i + 1) M.2.2.1 = true) (ho : List.all (q0 :: q1 :: q2 :: q3 :: q4 :: q5 :: q6 :: q7 :: q8 :: q9 :: r) (xl_k i 1) = true) (k : xg_X xs d M (pd) (q0 :: q1 :: q2 :: q3 :: q4 :: q5 :: q6 :: q7 :: q8 :: q9 :: (i, .int x) :: r) st σ Q) : xg_X xs d M (pc) (q0 :: q1 :: q2 :: q3 :: q4 :: q5 :: q6 :: q7 :: q8 :: q9 :: (i, v0) :: r) (.int x :: st) σ Q := X_ist_g pd hd hn (Nat.le_of_ble_eq_true hm) (fun q hq => xl_rep (pre := [q0, q1, q2, q3, q4, q5, q6, q7, q8, q9]) ho hq) k
theorem X_ist11 {i : Nat} {v0 : Value} {x : Int32} {q0 q1 q2 q3 q4 q5 q6 q7 q8 q9 q10 : Nat × Value} {r : List (Nat × Value)} (pd : Nat) (hd : decode M.2.1 pc = .ok (.istore i, 2)) (hn : pc + 2 = pd) (hm : Nat.ble (i + 1) M.2.2.1 = true) (ho : List.all (q0 :: q1 :: q2 :: q3 :: q4 :: q5 :: q6 :: q7 :: q8 :: q9 :: q10 :: r) (xl_k i 1) = true) (k : xg_X xs d M (pd) (q0 :: q1 :: q2 :: q3 :: q4 :: q5 :: q6 :: q7 :: q8 :: q9 :: q10 :: (i, .int x) :: r) st σ Q) : xg_X xs d M (pc) (q0 :: q1 :: q2 :: q3 :: q4 :: q5 :: q6 :: q7 :: q8 :: q9 :: q10 :: (i, v0) :: r) (.int x :: st) σ Q := X_ist_g pd hd hn (Nat.le_of_ble_eq_true hm) (fun q hq => xl_rep (pre := [q0, q1, q2, q3, q4, q5, q6, q7, q8, q9, q10]) ho hq) k
theorem X_ist12 {i : Nat} {v0 : Value} {x : Int32} {q0 q1 q2 q3 q4 q5 q6 q7 q8 q9 q10 q11 : Nat × Value} {r : List (Nat × Value)} (pd : Nat) (hd : decode M.2.1 pc = .ok (.istore i, 2)) (hn : pc + 2 = pd) (hm : Nat.ble (i + 1) M.2.2.1 = true) (ho : List.all (q0 :: q1 :: q2 :: q3 :: q4 :: q5 :: q6 :: q7 :: q8 :: q9 :: q10 :: q11 :: r) (xl_k i 1) = true) (k : xg_X xs d M (pd) (q0 :: q1 :: q2 :: q3 :: q4 :: q5 :: q6 :: q7 :: q8 :: q9 :: q10 :: q11 :: (i, .int x) :: r) st σ Q) : xg_X xs d M (pc) (q0 :: q1 :: q2 :: q3 :: q4 :: q5 :: q6 :: q7 :: q8 :: q9 :: q10 :: q11 :: (i, v0) :: r) (.int x :: st) σ Q := X_ist_g pd hd hn (Nat.le_of_ble_eq_true hm) (fun q hq => xl_rep (pre := [q0, q1, q2, q3, q4, q5, q6, q7, q8, q9, q10, q11]) ho hq) k
theorem X_ist13 {i : Nat} {v0 : Value} {x : Int32} {q0 q1 q2 q3 q4 q5 q6 q7 q8 q9 q10 q11 q12 : Nat × Value} {r : List (Nat × Value)} (pd : Nat) (hd : decode M.2.1 pc = .ok (.istore i, 2)) (hn : pc + 2 = pd) (hm : Nat.ble (i + 1) M.2.2.1 = true) (ho : List.all (q0 :: q1 :: q2 :: q3 :: q4 :: q5 :: q6 :: q7 :: q8 :: q9 :: q10 :: q11 :: q12 :: r) (xl_k i 1) = true) (k : xg_X xs d M (pd) (q0 :: q1 :: q2 :: q3 :: q4 :: q5 :: q6 :: q7 :: q8 :: q9 :: q10 :: q11 :: q12 :: (i, .int x) :: r) st σ Q) : xg_X xs d M (pc) (q0 :: q1 :: q2 :: q3 :: q4 :: q5 :: q6 :: q7 :: q8 :: q9 :: q10 :: q11 :: q12 :: (i, v0) :: r) (.int x :: st) σ Q := X_ist_g pd hd hn (Nat.le_of_ble_eq_true hm) (fun q hq => xl_rep (pre := [q0, q1, q2, q3, q4, q5, q6, q7, q8, q9, q10, q11, q12]) ho hq) k
theorem X_ist14 {i : Nat} {v0 : Value} {x : Int32} {q0 q1 q2 q3 q4 q5 q6 q7 q8 q9 q10 q11 q12 q13 : Nat × Value} {r : List (Nat × Value)} (pd : Nat) (hd : decode M.2.1 pc = .ok (.istore i, 2)) (hn : pc + 2 = pd) (hm : Nat.ble (i + 1) M.2.2.1 = true) (ho : List.all (q0 :: q1 :: q2 :: q3 :: q4 :: q5 :: q6 :: q7 :: q8 :: q9 :: q10 :: q11 :: q12 :: q13 :: r) (xl_k i 1) = true) (k : xg_X xs d M (pd) (q0 :: q1 :: q2 :: q3 :: q4 :: q5 :: q6 :: q7 :: q8 :: q9 :: q10 :: q11 :: q12 :: q13 :: (i, .int x) :: r) st σ Q) : xg_X xs d M (pc) (q0 :: q1 :: q2 :: q3 :: q4 :: q5 :: q6 :: q7 :: q8 :: q9 :: q10 :: q11 :: q12 :: q13 :: (i, v0) :: r) (.int x :: st) σ Q := X_ist_g pd hd hn (Nat.le_of_ble_eq_true hm) (fun q hq => xl_rep (pre := [q0, q1, q2, q3, q4, q5, q6, q7, q8, q9, q10, q11, q12, q13]) ho hq) k
theorem X_istn_g {j : Fin 4} {i : Nat} {x : Int32} {lw : List (Nat × Value)} (pd : Nat) (hd : decode M.2.1 pc = .ok (.istore_n j, 1)) (hi : (j : Nat) = i) (hn : pc + 1 = pd) (hm : i < M.2.2.1) (hs : ∀ q ∈ lw, q = (i, Value.int x) ∨ (q ∈ lv ∧ xl_k i 1 q = true)) (k : xg_X xs d M (pd) lw st σ Q) : xg_X xs d M (pc) lv (.int x :: st) σ Q := by
  intro p l e R s m args below meth c cells slots ad G cA Z hT hR H locs ls hP hS hl
  subst hn
  refine lv_istore_n hT.1 hT.2.1 hd hi hl hm rfl (fun ls hl => ?_)
  have hl := xl_has (w := 1) (v := .int x) (fun q hq => by simp only [xl_k, Bool.and_eq_true, Bool.not_eq_true', Bool.and_eq_false_iff, beq_eq_false_iff_ne, ne_eq, xv_cat] at hq ⊢; simp_all) hl hs
  exact k p l e R s m args below meth c cells slots ad G cA Z hT hR H locs ls hP hS hl
theorem X_istnN {j : Fin 4} {i : Nat} {x : Int32} (pd : Nat) (hd : decode M.2.1 pc = .ok (.istore_n j, 1)) (hi : (j : Nat) = i) (hn : pc + 1 = pd) (hm : Nat.ble (i + 1) M.2.2.1 = true) (ho : lv.all (xl_k i 1) = true) (k : xg_X xs d M (pd) ((i, .int x) :: lv) st σ Q) : xg_X xs d M (pc) lv (.int x :: st) σ Q := X_istn_g pd hd hi hn (Nat.le_of_ble_eq_true hm) (fun q hq => (List.mem_cons.mp hq).imp id (fun h => ⟨h, List.all_eq_true.mp ho q h⟩)) k
theorem X_istn0 {j : Fin 4} {i : Nat} {v0 : Value} {x : Int32} {r : List (Nat × Value)} (pd : Nat) (hd : decode M.2.1 pc = .ok (.istore_n j, 1)) (hi : (j : Nat) = i) (hn : pc + 1 = pd) (hm : Nat.ble (i + 1) M.2.2.1 = true) (ho : List.all (r) (xl_k i 1) = true) (k : xg_X xs d M (pd) ((i, .int x) :: r) st σ Q) : xg_X xs d M (pc) ((i, v0) :: r) (.int x :: st) σ Q := X_istn_g pd hd hi hn (Nat.le_of_ble_eq_true hm) (fun q hq => xl_rep (pre := []) ho hq) k
theorem X_istn1 {j : Fin 4} {i : Nat} {v0 : Value} {x : Int32} {q0 : Nat × Value} {r : List (Nat × Value)} (pd : Nat) (hd : decode M.2.1 pc = .ok (.istore_n j, 1)) (hi : (j : Nat) = i) (hn : pc + 1 = pd) (hm : Nat.ble (i + 1) M.2.2.1 = true) (ho : List.all (q0 :: r) (xl_k i 1) = true) (k : xg_X xs d M (pd) (q0 :: (i, .int x) :: r) st σ Q) : xg_X xs d M (pc) (q0 :: (i, v0) :: r) (.int x :: st) σ Q := X_istn_g pd hd hi hn (Nat.le_of_ble_eq_true hm) (fun q hq => xl_rep (pre := [q0]) ho hq) k
theorem X_istn2 {j : Fin 4} {i : Nat} {v0 : Value} {x : Int32} {q0 q1 : Nat × Value} {r : List (Nat × Value)} (pd : Nat) (hd : decode M.2.1 pc = .ok (.istore_n j, 1)) (hi : (j : Nat) = i) (hn : pc + 1 = pd) (hm : Nat.ble (i + 1) M.2.2.1 = true) (ho : List.all (q0 :: q1 :: r) (xl_k i 1) = true) (k : xg_X xs d M (pd) (q0 :: q1 :: (i, .int x) :: r) st σ Q) : xg_X xs d M (pc) (q0 :: q1 :: (i, v0) :: r) (.int x :: st) σ Q := X_istn_g pd hd hi hn (Nat.le_of_ble_eq_true hm) (fun q hq => xl_rep (pre := [q0, q1]) ho hq) k
theorem X_istn3 {j : Fin 4} {i : Nat} {v0 : Value} {x : Int32} {q0 q1 q2 : Nat × Value} {r : List (Nat × Value)} (pd : Nat) (hd : decode M.2.1 pc = .ok (.istore_n j, 1)) (hi : (j : Nat) = i) (hn : pc + 1 = pd) (hm : Nat.ble (i + 1) M.2.2.1 = true) (ho : List.all (q0 :: q1 :: q2 :: r) (xl_k i 1) = true) (k : xg_X xs d M (pd) (q0 :: q1 :: q2 :: (i, .int x) :: r) st σ Q) : xg_X xs d M (pc) (q0 :: q1 :: q2 :: (i, v0) :: r) (.int x :: st) σ Q := X_istn_g pd hd hi hn (Nat.le_of_ble_eq_true hm) (fun q hq => xl_rep (pre := [q0, q1, q2]) ho hq) k
theorem X_istn4 {j : Fin 4} {i : Nat} {v0 : Value} {x : Int32} {q0 q1 q2 q3 : Nat × Value} {r : List (Nat × Value)} (pd : Nat) (hd : decode M.2.1 pc = .ok (.istore_n j, 1)) (hi : (j : Nat) = i) (hn : pc + 1 = pd) (hm : Nat.ble (i + 1) M.2.2.1 = true) (ho : List.all (q0 :: q1 :: q2 :: q3 :: r) (xl_k i 1) = true) (k : xg_X xs d M (pd) (q0 :: q1 :: q2 :: q3 :: (i, .int x) :: r) st σ Q) : xg_X xs d M (pc) (q0 :: q1 :: q2 :: q3 :: (i, v0) :: r) (.int x :: st) σ Q := X_istn_g pd hd hi hn (Nat.le_of_ble_eq_true hm) (fun q hq => xl_rep (pre := [q0, q1, q2, q3]) ho hq) k
theorem X_istn5 {j : Fin 4} {i : Nat} {v0 : Value} {x : Int32} {q0 q1 q2 q3 q4 : Nat × Value} {r : List (Nat × Value)} (pd : Nat) (hd : decode M.2.1 pc = .ok (.istore_n j, 1)) (hi : (j : Nat) = i) (hn : pc + 1 = pd) (hm : Nat.ble (i + 1) M.2.2.1 = true) (ho : List.all (q0 :: q1 :: q2 :: q3 :: q4 :: r) (xl_k i 1) = true) (k : xg_X xs d M (pd) (q0 :: q1 :: q2 :: q3 :: q4 :: (i, .int x) :: r) st σ Q) : xg_X xs d M (pc) (q0 :: q1 :: q2 :: q3 :: q4 :: (i, v0) :: r) (.int x :: st) σ Q := X_istn_g pd hd hi hn (Nat.le_of_ble_eq_true hm) (fun q hq => xl_rep (pre := [q0, q1, q2, q3, q4]) ho hq) k
theorem X_istn6 {j : Fin 4} {i : Nat} {v0 : Value} {x : Int32} {q0 q1 q2 q3 q4 q5 : Nat × Value} {r : List (Nat × Value)} (pd : Nat) (hd : decode M.2.1 pc = .ok (.istore_n j, 1)) (hi : (j : Nat) = i) (hn : pc + 1 = pd) (hm : Nat.ble (i + 1) M.2.2.1 = true) (ho : List.all (q0 :: q1 :: q2 :: q3 :: q4 :: q5 :: r) (xl_k i 1) = true) (k : xg_X xs d M (pd) (q0 :: q1 :: q2 :: q3 :: q4 :: q5 :: (i, .int x) :: r) st σ Q) : xg_X xs d M (pc) (q0 :: q1 :: q2 :: q3 :: q4 :: q5 :: (i, v0) :: r) (.int x :: st) σ Q := X_istn_g pd hd hi hn (Nat.le_of_ble_eq_true hm) (fun q hq => xl_rep (pre := [q0, q1, q2, q3, q4, q5]) ho hq) k
theorem X_istn7 {j : Fin 4} {i : Nat} {v0 : Value} {x : Int32} {q0 q1 q2 q3 q4 q5 q6 : Nat × Value} {r : List (Nat × Value)} (pd : Nat) (hd : decode M.2.1 pc = .ok (.istore_n j, 1)) (hi : (j : Nat) = i) (hn : pc + 1 = pd) (hm : Nat.ble (i + 1) M.2.2.1 = true) (ho : List.all (q0 :: q1 :: q2 :: q3 :: q4 :: q5 :: q6 :: r) (xl_k i 1) = true) (k : xg_X xs d M (pd) (q0 :: q1 :: q2 :: q3 :: q4 :: q5 :: q6 :: (i, .int x) :: r) st σ Q) : xg_X xs d M (pc) (q0 :: q1 :: q2 :: q3 :: q4 :: q5 :: q6 :: (i, v0) :: r) (.int x :: st) σ Q := X_istn_g pd hd hi hn (Nat.le_of_ble_eq_true hm) (fun q hq => xl_rep (pre := [q0, q1, q2, q3, q4, q5, q6]) ho hq) k
theorem X_istn8 {j : Fin 4} {i : Nat} {v0 : Value} {x : Int32} {q0 q1 q2 q3 q4 q5 q6 q7 : Nat × Value} {r : List (Nat × Value)} (pd : Nat) (hd : decode M.2.1 pc = .ok (.istore_n j, 1)) (hi : (j : Nat) = i) (hn : pc + 1 = pd) (hm : Nat.ble (i + 1) M.2.2.1 = true) (ho : List.all (q0 :: q1 :: q2 :: q3 :: q4 :: q5 :: q6 :: q7 :: r) (xl_k i 1) = true) (k : xg_X xs d M (pd) (q0 :: q1 :: q2 :: q3 :: q4 :: q5 :: q6 :: q7 :: (i, .int x) :: r) st σ Q) : xg_X xs d M (pc) (q0 :: q1 :: q2 :: q3 :: q4 :: q5 :: q6 :: q7 :: (i, v0) :: r) (.int x :: st) σ Q := X_istn_g pd hd hi hn (Nat.le_of_ble_eq_true hm) (fun q hq => xl_rep (pre := [q0, q1, q2, q3, q4, q5, q6, q7]) ho hq) k
theorem X_istn9 {j : Fin 4} {i : Nat} {v0 : Value} {x : Int32} {q0 q1 q2 q3 q4 q5 q6 q7 q8 : Nat × Value} {r : List (Nat × Value)} (pd : Nat) (hd : decode M.2.1 pc = .ok (.istore_n j, 1)) (hi : (j : Nat) = i) (hn : pc + 1 = pd) (hm : Nat.ble (i + 1) M.2.2.1 = true) (ho : List.all (q0 :: q1 :: q2 :: q3 :: q4 :: q5 :: q6 :: q7 :: q8 :: r) (xl_k i 1) = true) (k : xg_X xs d M (pd) (q0 :: q1 :: q2 :: q3 :: q4 :: q5 :: q6 :: q7 :: q8 :: (i, .int x) :: r) st σ Q) : xg_X xs d M (pc) (q0 :: q1 :: q2 :: q3 :: q4 :: q5 :: q6 :: q7 :: q8 :: (i, v0) :: r) (.int x :: st) σ Q := X_istn_g pd hd hi hn (Nat.le_of_ble_eq_true hm) (fun q hq => xl_rep (pre := [q0, q1, q2, q3, q4, q5, q6, q7, q8]) ho hq) k
theorem X_istn10 {j : Fin 4} {i : Nat} {v0 : Value} {x : Int32} {q0 q1 q2 q3 q4 q5 q6 q7 q8 q9 : Nat × Value} {r : List (Nat × Value)} (pd : Nat) (hd : decode M.2.1 pc = .ok (.istore_n j, 1)) (hi : (j : Nat) = i) (hn : pc + 1 = pd) (hm : Nat.ble (i + 1) M.2.2.1 = true) (ho : List.all (q0 :: q1 :: q2 :: q3 :: q4 :: q5 :: q6 :: q7 :: q8 :: q9 :: r) (xl_k i 1) = true) (k : xg_X xs d M (pd) (q0 :: q1 :: q2 :: q3 :: q4 :: q5 :: q6 :: q7 :: q8 :: q9 :: (i, .int x) :: r) st σ Q) : xg_X xs d M (pc) (q0 :: q1 :: q2 :: q3 :: q4 :: q5 :: q6 :: q7 :: q8 :: q9 :: (i, v0) :: r) (.int x :: st) σ Q := X_istn_g pd hd hi hn (Nat.le_of_ble_eq_true hm) (fun q hq => xl_rep (pre := [q0, q1, q2, q3, q4, q5, q6, q7, q8, q9]) ho hq) k
theorem X_istn11 {j : Fin 4} {i : Nat} {v0 : Value} {x : Int32} {q0 q1 q2 q3 q4 q5 q6 q7 q8 q9 q10 : Nat × Value} {r : List (Nat × Value)} (pd : Nat) (hd : decode M.2.1 pc = .ok (.istore_n j, 1)) (hi : (j : Nat) = i) (hn : pc + 1 = pd) (hm : Nat.ble (i + 1) M.2.2.1 = true) (ho : List.all (q0 :: q1 :: q2 :: q3 :: q4 :: q5 :: q6 :: q7 :: q8 :: q9 :: q10 :: r) (xl_k i 1) = true) (k : xg_X xs d M (pd) (q0 :: q1 :: q2 :: q3 :: q4 :: q5 :: q6 :: q7 :: q8 :: q9 :: q10 :: (i, .int x) :: r) st σ Q) : xg_X xs d M (pc) (q0 :: q1 :: q2 :: q3 :: q4 :: q5 :: q6 :: q7 :: q8 :: q9 :: q10 :: (i, v0) :: r) (.int x :: st) σ Q := X_istn_g pd hd hi hn (Nat.le_of_ble_eq_true hm) (fun q hq => xl_rep (pre := [q0, q1, q2, q3, q4, q5, q6, q7, q8, q9, q10]) ho hq) k
theorem X_istn12 {j : Fin 4} {i : Nat} {v0 : Value} {x : Int32} {q0 q1 q2 q3 q4 q5 q6 q7 q8 q9 q10 q11 : Nat × Value} {r : List (Nat × Value)} (pd : Nat) (hd : decode M.2.1 pc = .ok (.istore_n j, 1)) (hi : (j : Nat) = i) (hn : pc + 1 = pd) (hm : Nat.ble (i + 1) M.2.2.1 = true) (ho : List.all (q0 :: q1 :: q2 :: q3 :: q4 :: q5 :: q6 :: q7 :: q8 :: q9 :: q10 :: q11 :: r) (xl_k i 1) = true) (k : xg_X xs d M (pd) (q0 :: q1 :: q2 :: q3 :: q4 :: q5 :: q6 :: q7 :: q8 :: q9 :: q10 :: q11 :: (i, .int x) :: r) st σ Q) : xg_X xs d M (pc) (q0 :: q1 :: q2 :: q3 :: q4 :: q5 :: q6 :: q7 :: q8 :: q9 :: q10 :: q11 :: (i, v0) :: r) (.int x :: st) σ Q := X_istn_g pd hd hi hn (Nat.le_of_ble_eq_true hm) (fun q hq => xl_rep (pre := [q0, q1, q2, q3, q4, q5, q6, q7, q8, q9, q10, q11]) ho hq) k
theorem X_istn13 {j : Fin 4} {i : Nat} {v0 : Value} {x : Int32} {q0 q1 q2 q3 q4 q5 q6 q7 q8 q9 q10 q11 q12 : Nat × Value} {r : List (Nat × Value)} (pd : Nat) (hd : decode M.2.1 pc = .ok (.istore_n j, 1)) (hi : (j : Nat) = i) (hn : pc + 1 = pd) (hm : Nat.ble (i + 1) M.2.2.1 = true) (ho : List.all (q0 :: q1 :: q2 :: q3 :: q4 :: q5 :: q6 :: q7 :: q8 :: q9 :: q10 :: q11 :: q12 :: r) (xl_k i 1) = true) (k : xg_X xs d M (pd) (q0 :: q1 :: q2 :: q3 :: q4 :: q5 :: q6 :: q7 :: q8 :: q9 :: q10 :: q11 :: q12 :: (i, .int x) :: r) st σ Q) : xg_X xs d M (pc) (q0 :: q1 :: q2 :: q3 :: q4 :: q5 :: q6 :: q7 :: q8 :: q9 :: q10 :: q11 :: q12 :: (i, v0) :: r) (.int x :: st) σ Q := X_istn_g pd hd hi hn (Nat.le_of_ble_eq_true hm) (fun q hq => xl_rep (pre := [q0, q1, q2, q3, q4, q5, q6, q7, q8, q9, q10, q11, q12]) ho hq) k
theorem X_istn14 {j : Fin 4} {i : Nat} {v0 : Value} {x : Int32} {q0 q1 q2 q3 q4 q5 q6 q7 q8 q9 q10 q11 q12 q13 : Nat × Value} {r : List (Nat × Value)} (pd : Nat) (hd : decode M.2.1 pc = .ok (.istore_n j, 1)) (hi : (j : Nat) = i) (hn : pc + 1 = pd) (hm : Nat.ble (i + 1) M.2.2.1 = true) (ho : List.all (q0 :: q1 :: q2 :: q3 :: q4 :: q5 :: q6 :: q7 :: q8 :: q9 :: q10 :: q11 :: q12 :: q13 :: r) (xl_k i 1) = true) (k : xg_X xs d M (pd) (q0 :: q1 :: q2 :: q3 :: q4 :: q5 :: q6 :: q7 :: q8 :: q9 :: q10 :: q11 :: q12 :: q13 :: (i, .int x) :: r) st σ Q) : xg_X xs d M (pc) (q0 :: q1 :: q2 :: q3 :: q4 :: q5 :: q6 :: q7 :: q8 :: q9 :: q10 :: q11 :: q12 :: q13 :: (i, v0) :: r) (.int x :: st) σ Q := X_istn_g pd hd hi hn (Nat.le_of_ble_eq_true hm) (fun q hq => xl_rep (pre := [q0, q1, q2, q3, q4, q5, q6, q7, q8, q9, q10, q11, q12, q13]) ho hq) k
theorem X_lst_g {i : Nat} {x : Int64} {lw : List (Nat × Value)} (pd : Nat) (hd : decode M.2.1 pc = .ok (.lstore i, 2)) (hn : pc + 2 = pd) (hm : i + 1 < M.2.2.1) (hs : ∀ q ∈ lw, q = (i, Value.long x) ∨ (q ∈ lv ∧ xl_k i 2 q = true)) (k : xg_X xs d M (pd) lw st σ Q) : xg_X xs d M (pc) lv (.long x :: st) σ Q := by
  intro p l e R s m args below meth c cells slots ad G cA Z hT hR H locs ls hP hS hl
  subst hn
  refine lv_lstore hT.1 hT.2.1 hd hl hm rfl (fun ls hl => ?_)
  have hl := xl_has (w := 2) (v := .long x) (fun q hq => by simp only [xl_k, Bool.and_eq_true, Bool.not_eq_true', Bool.and_eq_false_iff, beq_eq_false_iff_ne, ne_eq, xv_cat] at hq ⊢; simp_all) hl hs
  exact k p l e R s m args below meth c cells slots ad G cA Z hT hR H locs ls hP hS hl
theorem X_lstN {i : Nat} {x : Int64} (pd : Nat) (hd : decode M.2.1 pc = .ok (.lstore i, 2)) (hn : pc + 2 = pd) (hm : Nat.ble (i + 1 + 1) M.2.2.1 = true) (ho : lv.all (xl_k i 2) = true) (k : xg_X xs d M (pd) ((i, .long x) :: lv) st σ Q) : xg_X xs d M (pc) lv (.long x :: st) σ Q := X_lst_g pd hd hn (Nat.le_of_ble_eq_true hm) (fun q hq => (List.mem_cons.mp hq).imp id (fun h => ⟨h, List.all_eq_true.mp ho q h⟩)) k
theorem X_lst0 {i : Nat} {v0 : Value} {x : Int64} {r : List (Nat × Value)} (pd : Nat) (hd : decode M.2.1 pc = .ok (.lstore i, 2)) (hn : pc + 2 = pd) (hm : Nat.ble (i + 1 + 1) M.2.2.1 = true) (ho : List.all (r) (xl_k i 2) = true) (k : xg_X xs d M (pd) ((i, .long x) :: r) st σ Q) : xg_X xs d M (pc) ((i, v0) :: r) (.long x :: st) σ Q := X_lst_g pd hd hn (Nat.le_of_ble_eq_true hm) (fun q hq => xl_rep (pre := []) ho hq) k
theorem X_lst1 {i : Nat} {v0 : Value} {x : Int64} {q0 : Nat × Value} {r : List (Nat × Value)} (pd : Nat) (hd : decode M.2.1 pc = .ok (.lstore i, 2)) (hn : pc + 2 = pd) (hm : Nat.ble (i + 1 + 1) M.2.2.1 = true) (ho : List.all (q0 :: r) (xl_k i 2) = true) (k : xg_X xs d M (pd) (q0 :: (i, .long x) :: r) st σ Q) : xg_X xs d M (pc) (q0 :: (i, v0) :: r) (.long x :: st) σ Q := X_lst_g pd hd hn (Nat.le_of_ble_eq_true hm) (fun q hq => xl_rep (pre := [q0]) ho hq) k
theorem X_lst2 {i : Nat} {v0 : Value} {x : Int64} {q0 q1 : Nat × Value} {r : List (Nat × Value)} (pd : Nat) (hd : decode M.2.1 pc = .ok (.lstore i, 2)) (hn : pc + 2 = pd) (hm : Nat.ble (i + 1 + 1) M.2.2.1 = true) (ho : List.all (q0 :: q1 :: r) (xl_k i 2) = true) (k : xg_X xs d M (pd) (q0 :: q1 :: (i, .long x) :: r) st σ Q) : xg_X xs d M (pc) (q0 :: q1 :: (i, v0) :: r) (.long x :: st) σ Q := X_lst_g pd hd hn (Nat.le_of_ble_eq_true hm) (fun q hq => xl_rep (pre := [q0, q1]) ho hq) k
theorem X_lst3 {i : Nat} {v0 : Value} {x : Int64} {q0 q1 q2 : Nat × Value} {r : List (Nat × Value)} (pd : Nat) (hd : decode M.2.1 pc = .ok (.lstore i, 2)) (hn : pc + 2 = pd) (hm : Nat.ble (i + 1 + 1) M.2.2.1 = true) (ho : List.all (q0 :: q1 :: q2 :: r) (xl_k i 2) = true) (k : xg_X xs d M (pd) (q0 :: q1 :: q2 :: (i, .long x) :: r) st σ Q) : xg_X xs d M (pc) (q0 :: q1 :: q2 :: (i, v0) :: r) (.long x :: st) σ Q := X_lst_g pd hd hn (Nat.le_of_ble_eq_true hm) (fun q hq => xl_rep (pre := [q0, q1, q2]) ho hq) k
theorem X_lst4 {i : Nat} {v0 : Value} {x : Int64} {q0 q1 q2 q3 : Nat × Value} {r : List (Nat × Value)} (pd : Nat) (hd : decode M.2.1 pc = .ok (.lstore i, 2)) (hn : pc + 2 = pd) (hm : Nat.ble (i + 1 + 1) M.2.2.1 = true) (ho : List.all (q0 :: q1 :: q2 :: q3 :: r) (xl_k i 2) = true) (k : xg_X xs d M (pd) (q0 :: q1 :: q2 :: q3 :: (i, .long x) :: r) st σ Q) : xg_X xs d M (pc) (q0 :: q1 :: q2 :: q3 :: (i, v0) :: r) (.long x :: st) σ Q := X_lst_g pd hd hn (Nat.le_of_ble_eq_true hm) (fun q hq => xl_rep (pre := [q0, q1, q2, q3]) ho hq) k
theorem X_lst5 {i : Nat} {v0 : Value} {x : Int64} {q0 q1 q2 q3 q4 : Nat × Value} {r : List (Nat × Value)} (pd : Nat) (hd : decode M.2.1 pc = .ok (.lstore i, 2)) (hn : pc + 2 = pd) (hm : Nat.ble (i + 1 + 1) M.2.2.1 = true) (ho : List.all (q0 :: q1 :: q2 :: q3 :: q4 :: r) (xl_k i 2) = true) (k : xg_X xs d M (pd) (q0 :: q1 :: q2 :: q3 :: q4 :: (i, .long x) :: r) st σ Q) : xg_X xs d M (pc) (q0 :: q1 :: q2 :: q3 :: q4 :: (i, v0) :: r) (.long x :: st) σ Q := X_lst_g pd hd hn (Nat.le_of_ble_eq_true hm) (fun q hq => xl_rep (pre := [q0, q1, q2, q3, q4]) ho hq) k
theorem X_lst6 {i : Nat} {v0 : Value} {x : Int64} {q0 q1 q2 q3 q4 q5 : Nat × Value} {r : List (Nat × Value)} (pd : Nat) (hd : decode M.2.1 pc = .ok (.lstore i, 2)) (hn : pc + 2 = pd) (hm : Nat.ble (i + 1 + 1) M.2.2.1 = true) (ho : List.all (q0 :: q1 :: q2 :: q3 :: q4 :: q5 :: r) (xl_k i 2) = true) (k : xg_X xs d M (pd) (q0 :: q1 :: q2 :: q3 :: q4 :: q5 :: (i, .long x) :: r) st σ Q) : xg_X xs d M (pc) (q0 :: q1 :: q2 :: q3 :: q4 :: q5 :: (i, v0) :: r) (.long x :: st) σ Q := X_lst_g pd hd hn (Nat.le_of_ble_eq_true hm) (fun q hq => xl_rep (pre := [q0, q1, q2, q3, q4, q5]) ho hq) k
theorem X_lst7 {i : Nat} {v0 : Value} {x : Int64} {q0 q1 q2 q3 q4 q5 q6 : Nat × Value} {r : List (Nat × Value)} (pd : Nat) (hd : decode M.2.1 pc = .ok (.lstore i, 2)) (hn : pc + 2 = pd) (hm : Nat.ble (i + 1 + 1) M.2.2.1 = true) (ho : List.all (q0 :: q1 :: q2 :: q3 :: q4 :: q5 :: q6 :: r) (xl_k i 2) = true) (k : xg_X xs d M (pd) (q0 :: q1 :: q2 :: q3 :: q4 :: q5 :: q6 :: (i, .long x) :: r) st σ Q) : xg_X xs d M (pc) (q0 :: q1 :: q2 :: q3 :: q4 :: q5 :: q6 :: (i, v0) :: r) (.long x :: st) σ Q := X_lst_g pd hd hn (Nat.le_of_ble_eq_true hm) (fun q hq => xl_rep (pre := [q0, q1, q2, q3, q4, q5, q6]) ho hq) k
theorem X_lst8 {i : Nat} {v0 : Value} {x : Int64} {q0 q1 q2 q3 q4 q5 q6 q7 : Nat × Value} {r : List (Nat × Value)} (pd : Nat) (hd : decode M.2.1 pc = .ok (.lstore i, 2)) (hn : pc + 2 = pd) (hm : Nat.ble (i + 1 + 1) M.2.2.1 = true) (ho : List.all (q0 :: q1 :: q2 :: q3 :: q4 :: q5 :: q6 :: q7 :: r) (xl_k i 2) = true) (k : xg_X xs d M (pd) (q0 :: q1 :: q2 :: q3 :: q4 :: q5 :: q6 :: q7 :: (i, .long x) :: r) st σ Q) : xg_X xs d M (pc) (q0 :: q1 :: q2 :: q3 :: q4 :: q5 :: q6 :: q7 :: (i, v0) :: r) (.long x :: st) σ Q := X_lst_g pd hd hn (Nat.le_of_ble_eq_true hm) (fun q hq => xl_rep (pre := [q0, q1, q2, q3, q4, q5, q6, q7]) ho hq) k
theorem X_lst9 {i : Nat} {v0 : Value} {x : Int64} {q0 q1 q2 q3 q4 q5 q6 q7 q8 : Nat × Value} {r : List (Nat × Value)} (pd : Nat) (hd : decode M.2.1 pc = .ok (.lstore i, 2)) (hn : pc + 2 = pd) (hm : Nat.ble (i + 1 + 1) M.2.2.1 = true) (ho : List.all (q0 :: q1 :: q2 :: q3 :: q4 :: q5 :: q6 :: q7 :: q8 :: r) (xl_k i 2) = true) (k : xg_X xs d M (pd) (q0 :: q1 :: q2 :: q3 :: q4 :: q5 :: q6 :: q7 :: q8 :: (i, .long x) :: r) st σ Q) : xg_X xs d M (pc) (q0 :: q1 :: q2 :: q3 :: q4 :: q5 :: q6 :: q7 :: q8 :: (i, v0) :: r) (.long x :: st) σ Q := X_lst_g pd hd hn (Nat.le_of_ble_eq_true hm) (fun q hq => xl_rep (pre := [q0, q1, q2, q3, q4, q5, q6, q7, q8]) ho hq) k
theorem X_lst10 {i : Nat} {v0 : Value} {x : Int64} {q0 q1 q2 q3 q4 q5 q6 q7 q8 q9 : Nat × Value} {r : List (Nat × Value)} (pd : Nat) (hd : decode M.2.1 pc = .ok (.lstore i, 2)) (hn : pc + 2 = pd) (hm : Nat.ble (i + 1 + 1) M.2.2.1 = true) (ho : List.all (q0 :: q1 :: q2 :: q3 :: q4 :: q5 :: q6 :: q7 :: q8 :: q9 :: r) (xl_k i 2) = true) (k : xg_X xs d M (pd) (q0 :: q1 :: q2 :: q3 :: q4 :: q5 :: q6 :: q7 :: q8 :: q9 :: (i, .long x) :: r) st σ Q) : xg_X xs d M (pc) (q0 :: q1 :: q2 :: q3 :: q4 :: q5 :: q6 :: q7 :: q8 :: q9 :: (i, v0) :: r) (.long x :: st) σ Q := X_lst_g pd hd hn (Nat.le_of_ble_eq_true hm) (fun q hq => xl_rep (pre := [q0, q1, q2, q3, q4, q5, q6, q7, q8, q9]) ho hq) k
theorem X_lst11 {i : Nat} {v0 : Value} {x : Int64} {q0 q1 q2 q3 q4 q5 q6 q7 q8 q9 q10 : Nat × Value} {r : List (Nat × Value)} (pd : Nat) (hd : decode M.2.1 pc = .ok (.lstore i, 2)) (hn : pc + 2 = pd) (hm : Nat.ble (i + 1 + 1) M.2.2.1 = true) (ho : List.all (q0 :: q1 :: q2 :: q3 :: q4 :: q5 :: q6 :: q7 :: q8 :: q9 :: q10 :: r) (xl_k i 2) = true) (k : xg_X xs d M (pd) (q0 :: q1 :: q2 :: q3 :: q4 :: q5 :: q6 :: q7 :: q8 :: q9 :: q10 :: (i, .long x) :: r) st σ Q) : xg_X xs d M (pc) (q0 :: q1 :: q2 :: q3 :: q4 :: q5 :: q6 :: q7 :: q8 :: q9 :: q10 :: (i, v0) :: r) (.long x :: st) σ Q := X_lst_g pd hd hn (Nat.le_of_ble_eq_true hm) (fun q hq => xl_rep (pre := [q0, q1, q2, q3, q4, q5, q6, q7, q8, q9, q10]) ho hq) k
theorem X_lst12 {i : Nat} {v0 : Value} {x : Int64} {q0 q1 q2 q3 q4 q5 q6 q7 q8 q9 q10 q11 : Nat × Value} {r : List (Nat × Value)} (pd : Nat) (hd : decode M.2.1 pc = .ok (.lstore i, 2)) (hn : pc + 2 = pd) (hm : Nat.ble (i + 1 + 1) M.2.2.1 = true) (ho : List.all (q0 :: q1 :: q2 :: q3 :: q4 :: q5 :: q6 :: q7 :: q8 :: q9 :: q10 :: q11 :: r) (xl_k i 2) = true) (k : xg_X xs d M (pd) (q0 :: q1 :: q2 :: q3 :: q4 :: q5 :: q6 :: q7 :: q8 :: q9 :: q10 :: q11 :: (i, .long x) :: r) st σ Q) : xg_X xs d M (pc) (q0 :: q1 :: q2 :: q3 :: q4 :: q5 :: q6 :: q7 :: q8 :: q9 :: q10 :: q11 :: (i, v0) :: r) (.long x :: st) σ Q := X_lst_g pd hd hn (Nat.le_of_ble_eq_true hm) (fun q hq => xl_rep (pre := [q0, q1, q2, q3, q4, q5, q6, q7, q8, q9, q10, q11]) ho hq) k
theorem X_lst13 {i : Nat} {v0 : Value} {x : Int64} {q0 q1 q2 q3 q4 q5 q6 q7 q8 q9 q10 q11 q12 : Nat × Value} {r : List (Nat × Value)} (pd : Nat) (hd : decode M.2.1 pc = .ok (.lstore i, 2)) (hn : pc + 2 = pd) (hm : Nat.ble (i + 1 + 1) M.2.2.1 = true) (ho : List.all (q0 :: q1 :: q2 :: q3 :: q4 :: q5 :: q6 :: q7 :: q8 :: q9 :: q10 :: q11 :: q12 :: r) (xl_k i 2) = true) (k : xg_X xs d M (pd) (q0 :: q1 :: q2 :: q3 :: q4 :: q5 :: q6 :: q7 :: q8 :: q9 :: q10 :: q11 :: q12 :: (i, .long x) :: r) st σ Q) : xg_X xs d M (pc) (q0 :: q1 :: q2 :: q3 :: q4 :: q5 :: q6 :: q7 :: q8 :: q9 :: q10 :: q11 :: q12 :: (i, v0) :: r) (.long x :: st) σ Q := X_lst_g pd hd hn (Nat.le_of_ble_eq_true hm) (fun q hq => xl_rep (pre := [q0, q1, q2, q3, q4, q5, q6, q7, q8, q9, q10, q11, q12]) ho hq) k
theorem X_lst14 {i : Nat} {v0 : Value} {x : Int64} {q0 q1 q2 q3 q4 q5 q6 q7 q8 q9 q10 q11 q12 q13 : Nat × Value} {r : List (Nat × Value)} (pd : Nat) (hd : decode M.2.1 pc = .ok (.lstore i, 2)) (hn : pc + 2 = pd) (hm : Nat.ble (i + 1 + 1) M.2.2.1 = true) (ho : List.all (q0 :: q1 :: q2 :: q3 :: q4 :: q5 :: q6 :: q7 :: q8 :: q9 :: q10 :: q11 :: q12 :: q13 :: r) (xl_k i 2) = true) (k : xg_X xs d M (pd) (q0 :: q1 :: q2 :: q3 :: q4 :: q5 :: q6 :: q7 :: q8 :: q9 :: q10 :: q11 :: q12 :: q13 :: (i, .long x) :: r) st σ Q) : xg_X xs d M (pc) (q0 :: q1 :: q2 :: q3 :: q4 :: q5 :: q6 :: q7 :: q8 :: q9 :: q10 :: q11 :: q12 :: q13 :: (i, v0) :: r) (.long x :: st) σ Q := X_lst_g pd hd hn (Nat.le_of_ble_eq_true hm) (fun q hq => xl_rep (pre := [q0, q1, q2, q3, q4, q5, q6, q7, q8, q9, q10, q11, q12, q13]) ho hq) k
theorem X_lstn_g {j : Fin 4} {i : Nat} {x : Int64} {lw : List (Nat × Value)} (pd : Nat) (hd : decode M.2.1 pc = .ok (.lstore_n j, 1)) (hi : (j : Nat) = i) (hn : pc + 1 = pd) (hm : i + 1 < M.2.2.1) (hs : ∀ q ∈ lw, q = (i, Value.long x) ∨ (q ∈ lv ∧ xl_k i 2 q = true)) (k : xg_X xs d M (pd) lw st σ Q) : xg_X xs d M (pc) lv (.long x :: st) σ Q := by
  intro p l e R s m args below meth c cells slots ad G cA Z hT hR H locs ls hP hS hl
  subst hn
  refine lv_lstore_n hT.1 hT.2.1 hd hi hl hm rfl (fun ls hl => ?_)
  have hl := xl_has (w := 2) (v := .long x) (fun q hq => by simp only [xl_k, Bool.and_eq_true, Bool.not_eq_true', Bool.and_eq_false_iff, beq_eq_false_iff_ne, ne_eq, xv_cat] at hq ⊢; simp_all) hl hs
  exact k p l e R s m args below meth c cells slots ad G cA Z hT hR H locs ls hP hS hl
theorem X_lstnN {j : Fin 4} {i : Nat} {x : Int64} (pd : Nat) (hd : decode M.2.1 pc = .ok (.lstore_n j, 1)) (hi : (j : Nat) = i) (hn : pc + 1 = pd) (hm : Nat.ble (i + 1 + 1) M.2.2.1 = true) (ho : lv.all (xl_k i 2) = true) (k : xg_X xs d M (pd) ((i, .long x) :: lv) st σ Q) : xg_X xs d M (pc) lv (.long x :: st) σ Q := X_lstn_g pd hd hi hn (Nat.le_of_ble_eq_true hm) (fun q hq => (List.mem_cons.mp hq).imp id (fun h => ⟨h, List.all_eq_true.mp ho q h⟩)) k
theorem X_lstn0 {j : Fin 4} {i : Nat} {v0 : Value} {x : Int64} {r : List (Nat × Value)} (pd : Nat) (hd : decode M.2.1 pc = .ok (.lstore_n j, 1)) (hi : (j : Nat) = i) (hn : pc + 1 = pd) (hm : Nat.ble (i + 1 + 1) M.2.2.1 = true) (ho : List.all (r) (xl_k i 2) = true) (k : xg_X xs d M (pd) ((i, .long x) :: r) st σ Q) : xg_X xs d M (pc) ((i, v0) :: r) (.long x :: st) σ Q := X_lstn_g pd hd hi hn (Nat.le_of_ble_eq_true hm) (fun q hq => xl_rep (pre := []) ho hq) k
theorem X_lstn1 {j : Fin 4} {i : Nat} {v0 : Value} {x : Int64} {q0 : Nat × Value} {r : List (Nat × Value)} (pd : Nat) (hd : decode M.2.1 pc = .ok (.lstore_n j, 1)) (hi : (j : Nat) = i) (hn : pc + 1 = pd) (hm : Nat.ble (i + 1 + 1) M.2.2.1 = true) (ho : List.all (q0 :: r) (xl_k i 2) = true) (k : xg_X xs d M (pd) (q0 :: (i, .long x) :: r) st σ Q) : xg_X xs d M (pc) (q0 :: (i, v0) :: r) (.long x :: st) σ Q := X_lstn_g pd hd hi hn (Nat.le_of_ble_eq_true hm) (fun q hq => xl_rep (pre := [q0]) ho hq) k
theorem X_lstn2 {j : Fin 4} {i : Nat} {v0 : Value} {x : Int64} {q0 q1 : Nat × Value} {r : List (Nat × Value)} (pd : Nat) (hd : decode M.2.1 pc = .ok (.lstore_n j, 1)) (hi : (j : Nat) = i) (hn : pc + 1 = pd) (hm : Nat.ble (i + 1 + 1) M.2.2.1 = true) (ho : List.all (q0 :: q1 :: r) (xl_k i 2) = true) (k : xg_X xs d M (pd) (q0 :: q1 :: (i, .long x) :: r) st σ Q) : xg_X xs d M (pc) (q0 :: q1 :: (i, v0) :: r) (.long x :: st) σ Q := X_lstn_g pd hd hi hn (Nat.le_of_ble_eq_true hm) (fun q hq => xl_rep (pre := [q0, q1]) ho hq) k
theorem X_lstn3 {j : Fin 4} {i : Nat} {v0 : Value} {x : Int64} {q0 q1 q2 : Nat × Value} {r : List (Nat × Value)} (pd : Nat) (hd : decode M.2.1 pc = .ok (.lstore_n j, 1)) (hi : (j : Nat) = i) (hn : pc + 1 = pd) (hm : Nat.ble (i + 1 + 1) M.2.2.1 = true) (ho : List.all (q0 :: q1 :: q2 :: r) (xl_k i 2) = true) (k : xg_X xs d M (pd) (q0 :: q1 :: q2 :: (i, .long x) :: r) st σ Q) : xg_X xs d M (pc) (q0 :: q1 :: q2 :: (i, v0) :: r) (.long x :: st) σ Q := X_lstn_g pd hd hi hn (Nat.le_of_ble_eq_true hm) (fun q hq => xl_rep (pre := [q0, q1, q2]) ho hq) k
theorem X_lstn4 {j : Fin 4} {i : Nat} {v0 : Value} {x : Int64} {q0 q1 q2 q3 : Nat × Value} {r : List (Nat × Value)} (pd : Nat) (hd : decode M.2.1 pc = .ok (.lstore_n j, 1)) (hi : (j : Nat) = i) (hn : pc + 1 = pd) (hm : Nat.ble (i + 1 + 1) M.2.2.1 = true) (ho : List.all (q0 :: q1 :: q2 :: q3 :: r) (xl_k i 2) = true) (k : xg_X xs d M (pd) (q0 :: q1 :: q2 :: q3 :: (i, .long x) :: r) st σ Q) : xg_X xs d M (pc) (q0 :: q1 :: q2 :: q3 :: (i, v0) :: r) (.long x :: st) σ Q := X_lstn_g pd hd hi hn (Nat.le_of_ble_eq_true hm) (fun q hq => xl_rep (pre := [q0, q1, q2, q3]) ho hq) k
theorem X_lstn5 {j : Fin 4} {i : Nat} {v0 : Value} {x : Int64} {q0 q1 q2 q3 q4 : Nat × Value} {r : List (Nat × Value)} (pd : Nat) (hd : decode M.2.1 pc = .ok (.lstore_n j, 1)) (hi : (j : Nat) = i) (hn : pc + 1 = pd) (hm : Nat.ble (i + 1 + 1) M.2.2.1 = true) (ho : List.all (q0 :: q1 :: q2 :: q3 :: q4 :: r) (xl_k i 2) = true) (k : xg_X xs d M (pd) (q0 :: q1 :: q2 :: q3 :: q4 :: (i, .long x) :: r) st σ Q) : xg_X xs d M (pc) (q0 :: q1 :: q2 :: q3 :: q4 :: (i, v0) :: r) (.long x :: st) σ Q := X_lstn_g pd hd hi hn (Nat.le_of_ble_eq_true hm) (fun q hq => xl_rep (pre := [q0, q1, q2, q3, q4]) ho hq) k
theorem X_lstn6 {j : Fin 4} {i : Nat} {v0 : Value} {x : Int64} {q0 q1 q2 q3 q4 q5 : Nat × Value} {r : List (Nat × Value)} (pd : Nat) (hd : decode M.2.1 pc = .ok (.lstore_n j, 1)) (hi : (j : Nat) = i) (hn : pc + 1 = pd) (hm : Nat.ble (i + 1 + 1) M.2.2.1 = true) (ho : List.all (q0 :: q1 :: q2 :: q3 :: q4 :: q5 :: r) (xl_k i 2) = true) (k : xg_X xs d M (pd) (q0 :: q1 :: q2 :: q3 :: q4 :: q5 :: (i, .long x) :: r) st σ Q) : xg_X xs d M (pc) (q0 :: q1 :: q2 :: q3 :: q4 :: q5 :: (i, v0) :: r) (.long x :: st) σ Q := X_lstn_g pd hd hi hn (Nat.le_of_ble_eq_true hm) (fun q hq => xl_rep (pre := [q0, q1, q2, q3, q4, q5]) ho hq) k
theorem X_lstn7 {j : Fin 4} {i : Nat} {v0 : Value} {x : Int64} {q0 q1 q2 q3 q4 q5 q6 : Nat × Value} {r : List (Nat × Value)} (pd : Nat) (hd : decode M.2.1 pc = .ok (.lstore_n j, 1)) (hi : (j : Nat) = i) (hn : pc + 1 = pd) (hm : Nat.ble (i + 1 + 1) M.2.2.1 = true) (ho : List.all (q0 :: q1 :: q2 :: q3 :: q4 :: q5 :: q6 :: r) (xl_k i 2) = true) (k : xg_X xs d M (pd) (q0 :: q1 :: q2 :: q3 :: q4 :: q5 :: q6 :: (i, .long x) :: r) st σ Q) : xg_X xs d M (pc) (q0 :: q1 :: q2 :: q3 :: q4 :: q5 :: q6 :: (i, v0) :: r) (.long x :: st) σ Q := X_lstn_g pd hd hi hn (Nat.le_of_ble_eq_true hm) (fun q hq => xl_rep (pre := [q0, q1, q2, q3, q4, q5, q6]) ho hq) k
theorem X_lstn8 {j : Fin 4} {i : Nat} {v0 : Value} {x : Int64} {q0 q1 q2 q3 q4 q5 q6 q7 : Nat × Value} {r : List (Nat × Value)} (pd : Nat) (hd : decode M.2.1 pc = .ok (.lstore_n j, 1)) (hi : (j : Nat) = i) (hn : pc + 1 = pd) (hm : Nat.ble (i + 1 + 1) M.2.2.1 = true) (ho : List.all (q0 :: q1 :: q2 :: q3 :: q4 :: q5 :: q6 :: q7 :: r) (xl_k i 2) = true) (k : xg_X xs d M (pd) (q0 :: q1 :: q2 :: q3 :: q4 :: q5 :: q6 :: q7 :: (i, .long x) :: r) st σ Q) : xg_X xs d M (pc) (q0 :: q1 :: q2 :: q3 :: q4 :: q5 :: q6 :: q7 :: (i, v0) :: r) (.long x :: st) σ Q := X_lstn_g pd hd hi hn (Nat.le_of_ble_eq_true hm) (fun q hq => xl_rep (pre := [q0, q1, q2, q3, q4, q5, q6, q7]) ho hq) k
theorem X_lstn9 {j : Fin 4} {i : Nat} {v0 : Value} {x : Int64} {q0 q1 q2 q3 q4 q5 q6 q7 q8 : Nat × Value} {r : List (Nat × Value)} (pd : Nat) (hd : decode M.2.1 pc = .ok (.lstore_n j, 1)) (hi : (j : Nat) = i) (hn : pc + 1 = pd) (hm : Nat.ble (i + 1 + 1) M.2.2.1 = true) (ho : List.all (q0 :: q1 :: q2 :: q3 :: q4 :: q5 :: q6 :: q7 :: q8 :: r) (xl_k i 2) = true) (k : xg_X xs d M (pd) (q0 :: q1 :: q2 :: q3 :: q4 :: q5 :: q6 :: q7 :: q8 :: (i, .long x) :: r) st σ Q) : xg_X xs d M (pc) (q0 :: q1 :: q2 :: q3 :: q4 :: q5 :: q6 :: q7 :: q8 :: (i, v0) :: r) (.long x :: st) σ Q := X_lstn_g pd hd hi hn (Nat.le_of_ble_eq_true hm) (fun q hq => xl_rep (pre := [q0, q1, q2, q3, q4, q5, q6, q7, q8]) ho hq) k
theorem X_lstn10 {j : Fin 4} {i : Nat} {v0 : Value} {x : Int64} {q0 q1 q2 q3 q4 q5 q6 q7 q8 q9 : Nat × Value} {r : List (Nat × Value)} (pd : Nat) (hd : decode M.2.1 pc = .ok (.lstore_n j, 1)) (hi : (j : Nat) = i) (hn : pc + 1 = pd) (hm : Nat.ble (i + 1 + 1) M.2.2.1 = true) (ho : List.all (q0 :: q1 :: q2 :: q3 :: q4 :: q5 :: q6 :: q7 :: q8 :: q9 :: r) (xl_k i 2) = true) (k : xg_X xs d M (pd) (q0 :: q1 :: q2 :: q3 :: q4 :: q5 :: q6 :: q7 :: q8 :: q9 :: (i, .long x) :: r) st σ Q) : xg_X xs d M (pc) (q0 :: q1 :: q2 :: q3 :: q4 :: q5 :: q6 :: q7 :: q8 :: q9 :: (i, v0) :: r) (.long x :: st) σ Q := X_lstn_g pd hd hi hn (Nat.le_of_ble_eq_true hm) (fun q hq => xl_rep (pre := [q0, q1, q2, q3, q4, q5, q6, q7, q8, q9]) ho hq) k
theorem X_lstn11 {j : Fin 4} {i : Nat} {v0 : Value} {x : Int64} {q0 q1 q2 q3 q4 q5 q6 q7 q8 q9 q10 : Nat × Value} {r : List (Nat × Value)} (pd : Nat) (hd : decode M.2.1 pc = .ok (.lstore_n j, 1)) (hi : (j : Nat) = i) (hn : pc + 1 = pd) (hm : Nat.ble (i + 1 + 1) M.2.2.1 = true) (ho : List.all (q0 :: q1 :: q2 :: q3 :: q4 :: q5 :: q6 :: q7 :: q8 :: q9 :: q10 :: r) (xl_k i 2) = true) (k : xg_X xs d M (pd) (q0 :: q1 :: q2 :: q3 :: q4 :: q5 :: q6 :: q7 :: q8 :: q9 :: q10 :: (i, .long x) :: r) st σ Q) : xg_X xs d M (pc) (q0 :: q1 :: q2 :: q3 :: q4 :: q5 :: q6 :: q7 :: q8 :: q9 :: q10 :: (i, v0) :: r) (.long x :: st) σ Q := X_lstn_g pd hd hi hn (Nat.le_of_ble_eq_true hm) (fun q hq => xl_rep (pre := [q0, q1, q2, q3, q4, q5, q6, q7, q8, q9, q10]) ho hq) k
theorem X_lstn12 {j : Fin 4} {i : Nat} {v0 : Value} {x : Int64} {q0 q1 q2 q3 q4 q5 q6 q7 q8 q9 q10 q11 : Nat × Value} {r : List (Nat × Value)} (pd : Nat) (hd : decode M.2.1 pc = .ok (.lstore_n j, 1)) (hi : (j : Nat) = i) (hn : pc + 1 = pd) (hm : Nat.ble (i + 1 + 1) M.2.2.1 = true) (ho : List.all (q0 :: q1 :: q2 :: q3 :: q4 :: q5 :: q6 :: q7 :: q8 :: q9 :: q10 :: q11 :: r) (xl_k i 2) = true) (k : xg_X xs d M (pd) (q0 :: q1 :: q2 :: q3 :: q4 :: q5 :: q6 :: q7 :: q8 :: q9 :: q10 :: q11 :: (i, .long x) :: r) st σ Q) : xg_X xs d M (pc) (q0 :: q1 :: q2 :: q3 :: q4 :: q5 :: q6 :: q7 :: q8 :: q9 :: q10 :: q11 :: (i, v0) :: r) (.long x :: st) σ Q := X_lstn_g pd hd hi hn (Nat.le_of_ble_eq_true hm) (fun q hq => xl_rep (pre := [q0, q1, q2, q3, q4, q5, q6, q7, q8, q9, q10, q11]) ho hq) k
theorem X_lstn13 {j : Fin 4} {i : Nat} {v0 : Value} {x : Int64} {q0 q1 q2 q3 q4 q5 q6 q7 q8 q9 q10 q11 q12 : Nat × Value} {r : List (Nat × Value)} (pd : Nat) (hd : decode M.2.1 pc = .ok (.lstore_n j, 1)) (hi : (j : Nat) = i) (hn : pc + 1 = pd) (hm : Nat.ble (i + 1 + 1) M.2.2.1 = true) (ho : List.all (q0 :: q1 :: q2 :: q3 :: q4 :: q5 :: q6 :: q7 :: q8 :: q9 :: q10 :: q11 :: q12 :: r) (xl_k i 2) = true) (k : xg_X xs d M (pd) (q0 :: q1 :: q2 :: q3 :: q4 :: q5 :: q6 :: q7 :: q8 :: q9 :: q10 :: q11 :: q12 :: (i, .long x) :: r) st σ Q) : xg_X xs d M (pc) (q0 :: q1 :: q2 :: q3 :: q4 :: q5 :: q6 :: q7 :: q8 :: q9 :: q10 :: q11 :: q12 :: (i, v0) :: r) (.long x :: st) σ Q := X_lstn_g pd hd hi hn (Nat.le_of_ble_eq_true hm) (fun q hq => xl_rep (pre := [q0, q1, q2, q3, q4, q5, q6, q7, q8, q9, q10, q11, q12]) ho hq) k
theorem X_lstn14 {j : Fin 4} {i : Nat} {v0 : Value} {x : Int64} {q0 q1 q2 q3 q4 q5 q6 q7 q8 q9 q10 q11 q12 q13 : Nat × Value} {r : List (Nat × Value)} (pd : Nat) (hd : decode M.2.1 pc = .ok (.lstore_n j, 1)) (hi : (j : Nat) = i) (hn : pc + 1 = pd) (hm : Nat.ble (i + 1 + 1) M.2.2.1 = true) (ho : List.all (q0 :: q1 :: q2 :: q3 :: q4 :: q5 :: q6 :: q7 :: q8 :: q9 :: q10 :: q11 :: q12 :: q13 :: r) (xl_k i 2) = true) (k : xg_X xs d M (pd) (q0 :: q1 :: q2 :: q3 :: q4 :: q5 :: q6 :: q7 :: q8 :: q9 :: q10 :: q11 :: q12 :: q13 :: (i, .long x) :: r) st σ Q) : xg_X xs d M (pc) (q0 :: q1 :: q2 :: q3 :: q4 :: q5 :: q6 :: q7 :: q8 :: q9 :: q10 :: q11 :: q12 :: q13 :: (i, v0) :: r) (.long x :: st) σ Q := X_lstn_g pd hd hi hn (Nat.le_of_ble_eq_true hm) (fun q hq => xl_rep (pre := [q0, q1, q2, q3, q4, q5, q6, q7, q8, q9, q10, q11, q12, q13]) ho hq) k
theorem X_ast_g {i : Nat} {x : Nat} {lw : List (Nat × Value)} (pd : Nat) (hd : decode M.2.1 pc = .ok (.astore i, 2)) (hn : pc + 2 = pd) (hm : i < M.2.2.1) (hs : ∀ q ∈ lw, q = (i, Value.ref x) ∨ (q ∈ lv ∧ xl_k i 1 q = true)) (k : xg_X xs d M (pd) lw st σ Q) : xg_X xs d M (pc) lv (.ref x :: st) σ Q := by
  intro p l e R s m args below meth c cells slots ad G cA Z hT hR H locs ls hP hS hl
  subst hn
  refine lv_astore hT.1 hT.2.1 hd hl hm rfl (fun ls hl => ?_)
  have hl := xl_has (w := 1) (v := .ref x) (fun q hq => by simp only [xl_k, Bool.and_eq_true, Bool.not_eq_true', Bool.and_eq_false_iff, beq_eq_false_iff_ne, ne_eq, xv_cat] at hq ⊢; simp_all) hl hs
  exact k p l e R s m args below meth c cells slots ad G cA Z hT hR H locs ls hP hS hl
theorem X_astN {i : Nat} {x : Nat} (pd : Nat) (hd : decode M.2.1 pc = .ok (.astore i, 2)) (hn : pc + 2 = pd) (hm : Nat.ble (i + 1) M.2.2.1 = true) (ho : lv.all (xl_k i 1) = true) (k : xg_X xs d M (pd) ((i, .ref x) :: lv) st σ Q) : xg_X xs d M (pc) lv (.ref x :: st) σ Q := X_ast_g pd hd hn (Nat.le_of_ble_eq_true hm) (fun q hq => (List.mem_cons.mp hq).imp id (fun h => ⟨h, List.all_eq_true.mp ho q h⟩)) k
theorem X_ast0 {i : Nat} {v0 : Value} {x : Nat} {r : List (Nat × Value)} (pd : Nat) (hd : decode M.2.1 pc = .ok (.astore i, 2)) (hn : pc + 2 = pd) (hm : Nat.ble (i + 1) M.2.2.1 = true) (ho : List.all (r) (xl_k i 1) = true) (k : xg_X xs d M (pd) ((i, .ref x) :: r) st σ Q) : xg_X xs d M (pc) ((i, v0) :: r) (.ref x :: st) σ Q := X_ast_g pd hd hn (Nat.le_of_ble_eq_true hm) (fun q hq => xl_rep (pre := []) ho hq) k
theorem X_ast1 {i : Nat} {v0 : Value} {x : Nat} {q0 : Nat × Value} {r : List (Nat × Value)} (pd : Nat) (hd : decode M.2.1 pc = .ok (.astore i, 2)) (hn : pc + 2 = pd) (hm : Nat.ble (i + 1) M.2.2.1 = true) (ho : List.all (q0 :: r) (xl_k i 1) = true) (k : xg_X xs d M (pd) (q0 :: (i, .ref x) :: r) st σ Q) : xg_X xs d M (pc) (q0 :: (i, v0) :: r) (.ref x :: st) σ Q := X_ast_g pd hd hn (Nat.le_of_ble_eq_true hm) (fun q hq => xl_rep (pre := [q0]) ho hq) k
theorem X_ast2 {i : Nat} {v0 : Value} {x : Nat} {q0 q1 : Nat × Value} {r : List (Nat × Value)} (pd : Nat) (hd : decode M.2.1 pc = .ok (.astore i, 2)) (hn : pc + 2 = pd) (hm : Nat.ble (i + 1) M.2.2.1 = true) (ho : List.all (q0 :: q1 :: r) (xl_k i 1) = true) (k : xg_X xs d M (pd) (q0 :: q1 :: (i, .ref x) :: r) st σ Q) : xg_X xs d M (pc) (q0 :: q1 :: (i, v0) :: r) (.ref x :: st) σ Q := X_ast_g pd hd hn (Nat.le_of_ble_eq_true hm) (fun q hq => xl_rep (pre := [q0, q1]) ho hq) k
theorem X_ast3 {i : Nat} {v0 : Value} {x : Nat} {q0 q1 q2 : Nat × Value} {r : List (Nat × Value)} (pd : Nat) (hd : decode M.2.1 pc = .ok (.astore i, 2)) (hn : pc + 2 = pd) (hm : Nat.ble (i + 1) M.2.2.1 = true) (ho : List.all (q0 :: q1 :: q2 :: r) (xl_k i 1) = true) (k : xg_X xs d M (pd) (q0 :: q1 :: q2 :: (i, .ref x) :: r) st σ Q) : xg_X xs d M (pc) (q0 :: q1 :: q2 :: (i, v0) :: r) (.ref x :: st) σ Q := X_ast_g pd hd hn (Nat.le_of_ble_eq_true hm) (fun q hq => xl_rep (pre := [q0, q1, q2]) ho hq) k
theorem X_ast4 {i : Nat} {v0 : Value} {x : Nat} {q0 q1 q2 q3 : Nat × Value} {r : List (Nat × Value)} (pd : Nat) (hd : decode M.2.1 pc = .ok (.astore i, 2)) (hn : pc + 2 = pd) (hm : Nat.ble (i + 1) M.2.2.1 = true) (ho : List.all (q0 :: q1 :: q2 :: q3 :: r) (xl_k i 1) = true) (k : xg_X xs d M (pd) (q0 :: q1 :: q2 :: q3 :: (i, .ref x) :: r) st σ Q) : xg_X xs d M (pc) (q0 :: q1 :: q2 :: q3 :: (i, v0) :: r) (.ref x :: st) σ Q := X_ast_g pd hd hn (Nat.le_of_ble_eq_true hm) (fun q hq => xl_rep (pre := [q0, q1, q2, q3]) ho hq) k
theorem X_ast5 {i : Nat} {v0 : Value} {x : Nat} {q0 q1 q2 q3 q4 : Nat × Value} {r : List (Nat × Value)} (pd : Nat) (hd : decode M.2.1 pc = .ok (.astore i, 2)) (hn : pc + 2 = pd) (hm : Nat.ble (i + 1) M.2.2.1 = true) (ho : List.all (q0 :: q1 :: q2 :: q3 :: q4 :: r) (xl_k i 1) = true) (k : xg_X xs d M (pd) (q0 :: q1 :: q2 :: q3 :: q4 :: (i, .ref x) :: r) st σ Q) : xg_X xs d M (pc) (q0 :: q1 :: q2 :: q3 :: q4 :: (i, v0) :: r) (.ref x :: st) σ Q := X_ast_g pd hd hn (Nat.le_of_ble_eq_true hm) (fun q hq => xl_rep (pre := [q0, q1, q2, q3, q4]) ho hq) k
theorem X_ast6 {i : Nat} {v0 : Value} {x : Nat} {q0 q1 q2 q3 q4 q5 : Nat × Value} {r : List (Nat × Value)} (pd : Nat) (hd : decode M.2.1 pc = .ok (.astore i, 2)) (hn : pc + 2 = pd) (hm : Nat.ble (i + 1) M.2.2.1 = true) (ho : List.all (q0 :: q1 :: q2 :: q3 :: q4 :: q5 :: r) (xl_k i 1) = true) (k : xg_X xs d M (pd) (q0 :: q1 :: q2 :: q3 :: q4 :: q5 :: (i, .ref x) :: r) st σ Q) : xg_X xs d M (pc) (q0 :: q1 :: q2 :: q3 :: q4 :: q5 :: (i, v0) :: r) (.ref x :: st) σ Q := X_ast_g pd hd hn (Nat.le_of_ble_eq_true hm) (fun q hq => xl_rep (pre := [q0, q1, q2, q3, q4, q5]) ho hq) k
theorem X_ast7 {i : Nat} {v0 : Value} {x : Nat} {q0 q1 q2 q3 q4 q5 q6 : Nat × Value} {r : List (Nat × Value)} (pd : Nat) (hd : decode M.2.1 pc = .ok (.astore i, 2)) (hn : pc + 2 = pd) (hm : Nat.ble (i + 1) M.2.2.1 = true) (ho : List.all (q0 :: q1 :: q2 :: q3 :: q4 :: q5 :: q6 :: r) (xl_k i 1) = true) (k : xg_X xs d M (pd) (q0 :: q1 :: q2 :: q3 :: q4 :: q5 :: q6 :: (i, .ref x) :: r) st σ Q) : xg_X xs d M (pc) (q0 :: q1 :: q2 :: q3 :: q4 :: q5 :: q6 :: (i, v0) :: r) (.ref x :: st) σ Q := X_ast_g pd hd hn (Nat.le_of_ble_eq_true hm) (fun q hq => xl_rep (pre := [q0, q1, q2, q3, q4, q5, q6]) ho hq) k
theorem X_ast8 {i : Nat} {v0 : Value} {x : Nat} {q0 q1 q2 q3 q4 q5 q6 q7 : Nat × Value} {r : List (Nat × Value)} (pd : Nat) (hd : decode M.2.1 pc = .ok (.astore i, 2)) (hn : pc + 2 = pd) (hm : Nat.ble (i + 1) M.2.2.1 = true) (ho : List.all (q0 :: q1 :: q2 :: q3 :: q4 :: q5 :: q6 :: q7 :: r) (xl_k i 1) = true) (k : xg_X xs d M (pd) (q0 :: q1 :: q2 :: q3 :: q4 :: q5 :: q6 :: q7 :: (i, .ref x) :: r) st σ Q) : xg_X xs d M (pc) (q0 :: q1 :: q2 :: q3 :: q4 :: q5 :: q6 :: q7 :: (i, v0) :: r) (.ref x :: st) σ Q := X_ast_g pd hd hn (Nat.le_of_ble_eq_true hm) (fun q hq => xl_rep (pre := [q0, q1, q2, q3, q4, q5, q6, q7]) ho hq) k
theorem X_ast9 {i : Nat} {v0 : Value} {x : Nat} {q0 q1 q2 q3 q4 q5 q6 q7 q8 : Nat × Value} {r : List (Nat × Value)} (pd : Nat) (hd : decode M.2.1 pc = .ok (.astore i, 2)) (hn : pc + 2 = pd) (hm : Nat.ble (i + 1) M.2.2.1 = true) (ho : List.all (q0 :: q1 :: q2 :: q3 :: q4 :: q5 :: q6 :: q7 :: q8 :: r) (xl_k i 1) = true) (k : xg_X xs d M (pd) (q0 :: q1 :: q2 :: q3 :: q4 :: q5 :: q6 :: q7 :: q8 :: (i, .ref x) :: r) st σ Q) : xg_X xs d M (pc) (q0 :: q1 :: q2 :: q3 :: q4 :: q5 :: q6 :: q7 :: q8 :: (i, v0) :: r) (.ref x :: st) σ Q := X_ast_g pd hd hn (Nat.le_of_ble_eq_true hm) (fun q hq => xl_rep (pre := [q0, q1, q2, q3, q4, q5, q6, q7, q8]) ho hq) k
theorem X_ast10 {i : Nat} {v0 : Value} {x : Nat} {q0 q1 q2 q3 q4 q5 q6 q7 q8 q9 : Nat × Value} {r : List (Nat × Value)} (pd : Nat) (hd : decode M.2.1 pc = .ok (.astore i, 2)) (hn : pc + 2 = pd) (hm : Nat.ble (i + 1) M.2.2.1 = true) (ho : List.all (q0 :: q1 :: q2 :: q3 :: q4 :: q5 :: q6 :: q7 :: q8 :: q9 :: r) (xl_k i 1) = true) (k : xg_X xs d M (pd) (q0 :: q1 :: q2 :: q3 :: q4 :: q5 :: q6 :: q7 :: q8 :: q9 :: (i, .ref x) :: r) st σ Q) : xg_X xs d M (pc) (q0 :: q1 :: q2 :: q3 :: q4 :: q5 :: q6 :: q7 :: q8 :: q9 :: (i, v0) :: r) (.ref x :: st) σ Q := X_ast_g pd hd hn (Nat.le_of_ble_eq_true hm) (fun q hq => xl_rep (pre := [q0, q1, q2, q3, q4, q5, q6, q7, q8, q9]) ho hq) k
theorem X_ast11 {i : Nat} {v0 : Value} {x : Nat} {q0 q1 q2 q3 q4 q5 q6 q7 q8 q9 q10 : Nat × Value} {r : List (Nat × Value)} (pd : Nat) (hd : decode M.2.1 pc = .ok (.astore i, 2)) (hn : pc + 2 = pd) (hm : Nat.ble (i + 1) M.2.2.1 = true) (ho : List.all (q0 :: q1 :: q2 :: q3 :: q4 :: q5 :: q6 :: q7 :: q8 :: q9 :: q10 :: r) (xl_k i 1) = true) (k : xg_X xs d M (pd) (q0 :: q1 :: q2 :: q3 :: q4 :: q5 :: q6 :: q7 :: q8 :: q9 :: q10 :: (i, .ref x) :: r) st σ Q) : xg_X xs d M (pc) (q0 :: q1 :: q2 :: q3 :: q4 :: q5 :: q6 :: q7 :: q8 :: q9 :: q10 :: (i, v0) :: r) (.ref x :: st) σ Q := X_ast_g pd hd hn (Nat.le_of_ble_eq_true hm) (fun q hq => xl_rep (pre := [q0, q1, q2, q3, q4, q5, q6, q7, q8, q9, q10]) ho hq) k
theorem X_ast12 {i : Nat} {v0 : Value} {x : Nat} {q0 q1 q2 q3 q4 q5 q6 q7 q8 q9 q10 q11 : Nat × Value} {r : List (Nat × Value)} (pd : Nat) (hd : decode M.2.1 pc = .ok (.astore i, 2)) (hn : pc + 2 = pd) (hm : Nat.ble (i + 1) M.2.2.1 = true) (ho : List.all (q0 :: q1 :: q2 :: q3 :: q4 :: q5 :: q6 :: q7 :: q8 :: q9 :: q10 :: q11 :: r) (xl_k i 1) = true) (k : xg_X xs d M (pd) (q0 :: q1 :: q2 :: q3 :: q4 :: q5 :: q6 :: q7 :: q8 :: q9 :: q10 :: q11 :: (i, .ref x) :: r) st σ Q) : xg_X xs d M (pc) (q0 :: q1 :: q2 :: q3 :: q4 :: q5 :: q6 :: q7 :: q8 :: q9 :: q10 :: q11 :: (i, v0) :: r) (.ref x :: st) σ Q := X_ast_g pd hd hn (Nat.le_of_ble_eq_true hm) (fun q hq => xl_rep (pre := [q0, q1, q2, q3, q4, q5, q6, q7, q8, q9, q10, q11]) ho hq) k
theorem X_ast13 {i : Nat} {v0 : Value} {x : Nat} {q0 q1 q2 q3 q4 q5 q6 q7 q8 q9 q10 q11 q12 : Nat × Value} {r : List (Nat × Value)} (pd : Nat) (hd : decode M.2.1 pc = .ok (.astore i, 2)) (hn : pc + 2 = pd) (hm : Nat.ble (i + 1) M.2.2.1 = true) (ho : List.all (q0 :: q1 :: q2 :: q3 :: q4 :: q5 :: q6 :: q7 :: q8 :: q9 :: q10 :: q11 :: q12 :: r) (xl_k i 1) = true) (k : xg_X xs d M (pd) (q0 :: q1 :: q2 :: q3 :: q4 :: q5 :: q6 :: q7 :: q8 :: q9 :: q10 :: q11 :: q12 :: (i, .ref x) :: r) st σ Q) : xg_X xs d M (pc) (q0 :: q1 :: q2 :: q3 :: q4 :: q5 :: q6 :: q7 :: q8 :: q9 :: q10 :: q11 :: q12 :: (i, v0) :: r) (.ref x :: st) σ Q := X_ast_g pd hd hn (Nat.le_of_ble_eq_true hm) (fun q hq => xl_rep (pre := [q0, q1, q2, q3, q4, q5, q6, q7, q8, q9, q10, q11, q12]) ho hq) k
theorem X_ast14 {i : Nat} {v0 : Value} {x : Nat} {q0 q1 q2 q3 q4 q5 q6 q7 q8 q9 q10 q11 q12 q13 : Nat × Value} {r : List (Nat × Value)} (pd : Nat) (hd : decode M.2.1 pc = .ok (.astore i, 2)) (hn : pc + 2 = pd) (hm : Nat.ble (i + 1) M.2.2.1 = true) (ho : List.all (q0 :: q1 :: q2 :: q3 :: q4 :: q5 :: q6 :: q7 :: q8 :: q9 :: q10 :: q11 :: q12 :: q13 :: r) (xl_k i 1) = true) (k : xg_X xs d M (pd) (q0 :: q1 :: q2 :: q3 :: q4 :: q5 :: q6 :: q7 :: q8 :: q9 :: q10 :: q11 :: q12 :: q13 :: (i, .ref x) :: r) st σ Q) : xg_X xs d M (pc) (q0 :: q1 :: q2 :: q3 :: q4 :: q5 :: q6 :: q7 :: q8 :: q9 :: q10 :: q11 :: q12 :: q13 :: (i, v0) :: r) (.ref x :: st) σ Q := X_ast_g pd hd hn (Nat.le_of_ble_eq_true hm) (fun q hq => xl_rep (pre := [q0, q1, q2, q3, q4, q5, q6, q7, q8, q9, q10, q11, q12, q13]) ho hq) k
theorem X_astn_g {j : Fin 4} {i : Nat} {x : Nat} {lw : List (Nat × Value)} (pd : Nat) (hd : decode M.2.1 pc = .ok (.astore_n j, 1)) (hi : (j : Nat) = i) (hn : pc + 1 = pd) (hm : i < M.2.2.1) (hs : ∀ q ∈ lw, q = (i, Value.ref x) ∨ (q ∈ lv ∧ xl_k i 1 q = true)) (k : xg_X xs d M (pd) lw st σ Q) : xg_X xs d M (pc) lv (.ref x :: st) σ Q := by
  intro p l e R s m args below meth c cells slots ad G cA Z hT hR H locs ls hP hS hl
  subst hn
  refine lv_astore_n hT.1 hT.2.1 hd hi hl hm rfl (fun ls hl => ?_)
  have hl := xl_has (w := 1) (v := .ref x) (fun q hq => by simp only [xl_k, Bool.and_eq_true, Bool.not_eq_true', Bool.and_eq_false_iff, beq_eq_false_iff_ne, ne_eq, xv_cat] at hq ⊢; simp_all) hl hs
  exact k p l e R s m args below meth c cells slots ad G cA Z hT hR H locs ls hP hS hl
theorem X_astnN {j : Fin 4} {i : Nat} {x : Nat} (pd : Nat) (hd : decode M.2.1 pc = .ok (.astore_n j, 1)) (hi : (j : Nat) = i) (hn : pc + 1 = pd) (hm : Nat.ble (i + 1) M.2.2.1 = true) (ho : lv.all (xl_k i 1) = true) (k : xg_X xs d M (pd) ((i, .ref x) :: lv) st σ Q) : xg_X xs d M (pc) lv (.ref x :: st) σ Q := X_astn_g pd hd hi hn (Nat.le_of_ble_eq_true hm) (fun q hq => (List.mem_cons.mp hq).imp id (fun h => ⟨h, List.all_eq_true.mp ho q h⟩)) k
theorem X_astn0 {j : Fin 4} {i : Nat} {v0 : Value} {x : Nat} {r : List (Nat × Value)} (pd : Nat) (hd : decode M.2.1 pc = .ok (.astore_n j, 1)) (hi : (j : Nat) = i) (hn : pc + 1 = pd) (hm : Nat.ble (i + 1) M.2.2.1 = true) (ho : List.all (r) (xl_k i 1) = true) (k : xg_X xs d M (pd) ((i, .ref x) :: r) st σ Q) : xg_X xs d M (pc) ((i, v0) :: r) (.ref x :: st) σ Q := X_astn_g pd hd hi hn (Nat.le_of_ble_eq_true hm) (fun q hq => xl_rep (pre := []) ho hq) k
theorem X_astn1 {j : Fin 4} {i : Nat} {v0 : Value} {x : Nat} {q0 : Nat × Value} {r : List (Nat × Value)} (pd : Nat) (hd : decode M.2.1 pc = .ok (.astore_n j, 1)) (hi : (j : Nat) = i) (hn : pc + 1 = pd) (hm : Nat.ble (i + 1) M.2.2.1 = true) (ho : List.all (q0 :: r) (xl_k i 1) = true) (k : xg_X xs d M (pd) (q0 :: (i, .ref x) :: r) st σ Q) : xg_X xs d M (pc) (q0 :: (i, v0) :: r) (.ref x :: st) σ Q := X_astn_g pd hd hi hn (Nat.le_of_ble_eq_true hm) (fun q hq => xl_rep (pre := [q0]) ho hq) k
theorem X_astn2 {j : Fin 4} {i : Nat} {v0 : Value} {x : Nat} {q0 q1 : Nat × Value} {r : List (Nat × Value)} (pd : Nat) (hd : decode M.2.1 pc = .ok (.astore_n j, 1)) (hi : (j : Nat) = i) (hn : pc + 1 = pd) (hm : Nat.ble (i + 1) M.2.2.1 = true) (ho : List.all (q0 :: q1 :: r) (xl_k i 1) = true) (k : xg_X xs d M (pd) (q0 :: q1 :: (i, .ref x) :: r) st σ Q) : xg_X xs d M (pc) (q0 :: q1 :: (i, v0) :: r) (.ref x :: st) σ Q := X_astn_g pd hd hi hn (Nat.le_of_ble_eq_true hm) (fun q hq => xl_rep (pre := [q0, q1]) ho hq) k
theorem X_astn3 {j : Fin 4} {i : Nat} {v0 : Value} {x : Nat} {q0 q1 q2 : Nat × Value} {r : List (Nat × Value)} (pd : Nat) (hd : decode M.2.1 pc = .ok (.astore_n j, 1)) (hi : (j : Nat) = i) (hn : pc + 1 = pd) (hm : Nat.ble (i + 1) M.2.2.1 = true) (ho : List.all (q0 :: q1 :: q2 :: r) (xl_k i 1) = true) (k : xg_X xs d M (pd) (q0 :: q1 :: q2 :: (i, .ref x) :: r) st σ Q) : xg_X xs d M (pc) (q0 :: q1 :: q2 :: (i, v0) :: r) (.ref x :: st) σ Q := X_astn_g pd hd hi hn (Nat.le_of_ble_eq_true hm) (fun q hq => xl_rep (pre := [q0, q1, q2]) ho hq) k
theorem X_astn4 {j : Fin 4} {i : Nat} {v0 : Value} {x : Nat} {q0 q1 q2 q3 : Nat × Value} {r : List (Nat × Value)} (pd : Nat) (hd : decode M.2.1 pc = .ok (.astore_n j, 1)) (hi : (j : Nat) = i) (hn : pc + 1 = pd) (hm : Nat.ble (i + 1) M.2.2.1 = true) (ho : List.all (q0 :: q1 :: q2 :: q3 :: r) (xl_k i 1) = true) (k : xg_X xs d M (pd) (q0 :: q1 :: q2 :: q3 :: (i, .ref x) :: r) st σ Q) : xg_X xs d M (pc) (q0 :: q1 :: q2 :: q3 :: (i, v0) :: r) (.ref x :: st) σ Q := X_astn_g pd hd hi hn (Nat.le_of_ble_eq_true hm) (fun q hq => xl_rep (pre := [q0, q1, q2, q3]) ho hq) k
theorem X_astn5 {j : Fin 4} {i : Nat} {v0 : Value} {x : Nat} {q0 q1 q2 q3 q4 : Nat × Value} {r : List (Nat × Value)} (pd : Nat) (hd : decode M.2.1 pc = .ok (.astore_n j, 1)) (hi : (j : Nat) = i) (hn : pc + 1 = pd) (hm : Nat.ble (i + 1) M.2.2.1 = true) (ho : List.all (q0 :: q1 :: q2 :: q3 :: q4 :: r) (xl_k i 1) = true) (k : xg_X xs d M (pd) (q0 :: q1 :: q2 :: q3 :: q4 :: (i, .ref x) :: r) st σ Q) : xg_X xs d M (pc) (q0 :: q1 :: q2 :: q3 :: q4 :: (i, v0) :: r) (.ref x :: st) σ Q := X_astn_g pd hd hi hn (Nat.le_of_ble_eq_true hm) (fun q hq => xl_rep (pre := [q0, q1, q2, q3, q4]) ho hq) k
theorem X_astn6 {j : Fin 4} {i : Nat} {v0 : Value} {x : Nat} {q0 q1 q2 q3 q4 q5 : Nat × Value} {r : List (Nat × Value)} (pd : Nat) (hd : decode M.2.1 pc = .ok (.astore_n j, 1)) (hi : (j : Nat) = i) (hn : pc + 1 = pd) (hm : Nat.ble (i + 1) M.2.2.1 = true) (ho : List.all (q0 :: q1 :: q2 :: q3 :: q4 :: q5 :: r) (xl_k i 1) = true) (k : xg_X xs d M (pd) (q0 :: q1 :: q2 :: q3 :: q4 :: q5 :: (i, .ref x) :: r) st σ Q) : xg_X xs d M (pc) (q0 :: q1 :: q2 :: q3 :: q4 :: q5 :: (i, v0) :: r) (.ref x :: st) σ Q := X_astn_g pd hd hi hn (Nat.le_of_ble_eq_true hm) (fun q hq => xl_rep (pre := [q0, q1, q2, q3, q4, q5]) ho hq) k
theorem X_astn7 {j : Fin 4} {i : Nat} {v0 : Value} {x : Nat} {q0 q1 q2 q3 q4 q5 q6 : Nat × Value} {r : List (Nat × Value)} (pd : Nat) (hd : decode M.2.1 pc = .ok (.astore_n j, 1)) (hi : (j : Nat) = i) (hn : pc + 1 = pd) (hm : Nat.ble (i + 1) M.2.2.1 = true) (ho : List.all (q0 :: q1 :: q2 :: q3 :: q4 :: q5 :: q6 :: r) (xl_k i 1) = true) (k : xg_X xs d M (pd) (q0 :: q1 :: q2 :: q3 :: q4 :: q5 :: q6 :: (i, .ref x) :: r) st σ Q) : xg_X xs d M (pc) (q0 :: q1 :: q2 :: q3 :: q4 :: q5 :: q6 :: (i, v0) :: r) (.ref x :: st) σ Q := X_astn_g pd hd hi hn (Nat.le_of_ble_eq_true hm) (fun q hq => xl_rep (pre := [q0, q1, q2, q3, q4, q5, q6]) ho hq) k
theorem X_astn8 {j : Fin 4} {i : Nat} {v0 : Value} {x : Nat} {q0 q1 q2 q3 q4 q5 q6 q7 : Nat × Value} {r : List (Nat × Value)} (pd : Nat) (hd : decode M.2.1 pc = .ok (.astore_n j, 1)) (hi : (j : Nat) = i) (hn : pc + 1 = pd) (hm : Nat.ble (i + 1) M.2.2.1 = true) (ho : List.all (q0 :: q1 :: q2 :: q3 :: q4 :: q5 :: q6 :: q7 :: r) (xl_k i 1) = true) (k : xg_X xs d M (pd) (q0 :: q1 :: q2 :: q3 :: q4 :: q5 :: q6 :: q7 :: (i, .ref x) :: r) st σ Q) : xg_X xs d M (pc) (q0 :: q1 :: q2 :: q3 :: q4 :: q5 :: q6 :: q7 :: (i, v0) :: r) (.ref x :: st) σ Q := X_astn_g pd hd hi hn (Nat.le_of_ble_eq_true hm) (fun q hq => xl_rep (pre := [q0, q1, q2, q3, q4, q5, q6, q7]) ho hq) k
theorem X_astn9 {j : Fin 4} {i : Nat} {v0 : Value} {x : Nat} {q0 q1 q2 q3 q4 q5 q6 q7 q8 : Nat × Value} {r : List (Nat × Value)} (pd : Nat) (hd : decode M.2.1 pc = .ok (.astore_n j, 1)) (hi : (j : Nat) = i) (hn : pc + 1 = pd) (hm : Nat.ble (i + 1) M.2.2.1 = true) (ho : List.all (q0 :: q1 :: q2 :: q3 :: q4 :: q5 :: q6 :: q7 :: q8 :: r) (xl_k i 1) = true) (k : xg_X xs d M (pd) (q0 :: q1 :: q2 :: q3 :: q4 :: q5 :: q6 :: q7 :: q8 :: (i, .ref x) :: r) st σ Q) : xg_X xs d M (pc) (q0 :: q1 :: q2 :: q3 :: q4 :: q5 :: q6 :: q7 :: q8 :: (i, v0) :: r) (.ref x :: st) σ Q := X_astn_g pd hd hi hn (Nat.le_of_ble_eq_true hm) (fun q hq => xl_rep (pre := [q0, q1, q2, q3, q4, q5, q6, q7, q8]) ho hq) k
theorem X_astn10 {j : Fin 4} {i : Nat} {v0 : Value} {x : Nat} {q0 q1 q2 q3 q4 q5 q6 q7 q8 q9 : Nat × Value} {r : List (Nat × Value)} (pd : Nat) (hd : decode M.2.1 pc = .ok (.astore_n j, 1)) (hi : (j : Nat) = i) (hn : pc + 1 = pd) (hm : Nat.ble (i + 1) M.2.2.1 = true) (ho : List.all (q0 :: q1 :: q2 :: q3 :: q4 :: q5 :: q6 :: q7 :: q8 :: q9 :: r) (xl_k i 1) = true) (k : xg_X xs d M (pd) (q0 :: q1 :: q2 :: q3 :: q4 :: q5 :: q6 :: q7 :: q8 :: q9 :: (i, .ref x) :: r) st σ Q) : xg_X xs d M (pc) (q0 :: q1 :: q2 :: q3 :: q4 :: q5 :: q6 :: q7 :: q8 :: q9 :: (i, v0) :: r) (.ref x :: st) σ Q := X_astn_g pd hd hi hn (Nat.le_of_ble_eq_true hm) (fun q hq => xl_rep (pre := [q0, q1, q2, q3, q4, q5, q6, q7, q8, q9]) ho hq) k
theorem X_astn11 {j : Fin 4} {i : Nat} {v0 : Value} {x : Nat} {q0 q1 q2 q3 q4 q5 q6 q7 q8 q9 q10 : Nat × Value} {r : List (Nat × Value)} (pd : Nat) (hd : decode M.2.1 pc = .ok (.astore_n j, 1)) (hi : (j : Nat) = i) (hn : pc + 1 = pd) (hm : Nat.ble (i + 1) M.2.2.1 = true) (ho : List.all (q0 :: q1 :: q2 :: q3 :: q4 :: q5 :: q6 :: q7 :: q8 :: q9 :: q10 :: r) (xl_k i 1) = true) (k : xg_X xs d M (pd) (q0 :: q1 :: q2 :: q3 :: q4 :: q5 :: q6 :: q7 :: q8 :: q9 :: q10 :: (i, .ref x) :: r) st σ Q) : xg_X xs d M (pc) (q0 :: q1 :: q2 :: q3 :: q4 :: q5 :: q6 :: q7 :: q8 :: q9 :: q10 :: (i, v0) :: r) (.ref x :: st) σ Q := X_astn_g pd hd hi hn (Nat.le_of_ble_eq_true hm) (fun q hq => xl_rep (pre := [q0, q1, q2, q3, q4, q5, q6, q7, q8, q9, q10]) ho hq) k
theorem X_astn12 {j : Fin 4} {i : Nat} {v0 : Value} {x : Nat} {q0 q1 q2 q3 q4 q5 q6 q7 q8 q9 q10 q11 : Nat × Value} {r : List (Nat × Value)} (pd : Nat) (hd : decode M.2.1 pc = .ok (.astore_n j, 1)) (hi : (j : Nat) = i) (hn : pc + 1 = pd) (hm : Nat.ble (i + 1) M.2.2.1 = true) (ho : List.all (q0 :: q1 :: q2 :: q3 :: q4 :: q5 :: q6 :: q7 :: q8 :: q9 :: q10 :: q11 :: r) (xl_k i 1) = true) (k : xg_X xs d M (pd) (q0 :: q1 :: q2 :: q3 :: q4 :: q5 :: q6 :: q7 :: q8 :: q9 :: q10 :: q11 :: (i, .ref x) :: r) st σ Q) : xg_X xs d M (pc) (q0 :: q1 :: q2 :: q3 :: q4 :: q5 :: q6 :: q7 :: q8 :: q9 :: q10 :: q11 :: (i, v0) :: r) (.ref x :: st) σ Q := X_astn_g pd hd hi hn (Nat.le_of_ble_eq_true hm) (fun q hq => xl_rep (pre := [q0, q1, q2, q3, q4, q5, q6, q7, q8, q9, q10, q11]) ho hq) k
theorem X_astn13 {j : Fin 4} {i : Nat} {v0 : Value} {x : Nat} {q0 q1 q2 q3 q4 q5 q6 q7 q8 q9 q10 q11 q12 : Nat × Value} {r : List (Nat × Value)} (pd : Nat) (hd : decode M.2.1 pc = .ok (.astore_n j, 1)) (hi : (j : Nat) = i) (hn : pc + 1 = pd) (hm : Nat.ble (i + 1) M.2.2.1 = true) (ho : List.all (q0 :: q1 :: q2 :: q3 :: q4 :: q5 :: q6 :: q7 :: q8 :: q9 :: q10 :: q11 :: q12 :: r) (xl_k i 1) = true) (k : xg_X xs d M (pd) (q0 :: q1 :: q2 :: q3 :: q4 :: q5 :: q6 :: q7 :: q8 :: q9 :: q10 :: q11 :: q12 :: (i, .ref x) :: r) st σ Q) : xg_X xs d M (pc) (q0 :: q1 :: q2 :: q3 :: q4 :: q5 :: q6 :: q7 :: q8 :: q9 :: q10 :: q11 :: q12 :: (i, v0) :: r) (.ref x :: st) σ Q := X_astn_g pd hd hi hn (Nat.le_of_ble_eq_true hm) (fun q hq => xl_rep (pre := [q0, q1, q2, q3, q4, q5, q6, q7, q8, q9, q10, q11, q12]) ho hq) k
theorem X_astn14 {j : Fin 4} {i : Nat} {v0 : Value} {x : Nat} {q0 q1 q2 q3 q4 q5 q6 q7 q8 q9 q10 q11 q12 q13 : Nat × Value} {r : List (Nat × Value)} (pd : Nat) (hd : decode M.2.1 pc = .ok (.astore_n j, 1)) (hi : (j : Nat) = i) (hn : pc + 1 = pd) (hm : Nat.ble (i + 1) M.2.2.1 = true) (ho : List.all (q0 :: q1 :: q2 :: q3 :: q4 :: q5 :: q6 :: q7 :: q8 :: q9 :: q10 :: q11 :: q12 :: q13 :: r) (xl_k i 1) = true) (k : xg_X xs d M (pd) (q0 :: q1 :: q2 :: q3 :: q4 :: q5 :: q6 :: q7 :: q8 :: q9 :: q10 :: q11 :: q12 :: q13 :: (i, .ref x) :: r) st σ Q) : xg_X xs d M (pc) (q0 :: q1 :: q2 :: q3 :: q4 :: q5 :: q6 :: q7 :: q8 :: q9 :: q10 :: q11 :: q12 :: q13 :: (i, v0) :: r) (.ref x :: st) σ Q := X_astn_g pd hd hi hn (Nat.le_of_ble_eq_true hm) (fun q hq => xl_rep (pre := [q0, q1, q2, q3, q4, q5, q6, q7, q8, q9, q10, q11, q12, q13]) ho hq) k
theorem X_inc0 {i : Nat} {n : Int} {x : Int32} {r : List (Nat × Value)} (v : Int32) (pd : Nat) (hd : decode M.2.1 pc = .ok (.iinc i n, 3)) (hv : Int32.ofInt n = v) (hn : pc + 3 = pd) (hm : Nat.ble (i + 1) M.2.2.1 = true) (ho : List.all (r) (xl_k i 1) = true) (k : xg_X xs d M (pd) ((i, .int (x + v)) :: r) st σ Q) : xg_X xs d M (pc) ((i, .int x) :: r) st σ Q := by
  intro p l e R s m args below meth c cells slots ad G cA Z hT hR H locs ls hP hS hl
  subst hn
  refine lv_iinc (k := 0) (x := x) hT.1 hT.2.1 hd hl rfl (by rw [hv]) (Nat.le_of_ble_eq_true hm) rfl (fun ls hl => ?_)
  have hl := xl_has (w := 1) (v := .int (x + v)) (lw := ((i, .int (x + v)) :: r)) (fun q hq => by simp only [xl_k, Bool.and_eq_true, Bool.not_eq_true', Bool.and_eq_false_iff, beq_eq_false_iff_ne, ne_eq, xv_cat] at hq ⊢; simp_all) hl (fun q hq => xl_rep (pre := []) ho hq)
  exact k p l e R s m args below meth c cells slots ad G cA Z hT hR H locs ls hP hS hl
theorem X_inc1 {i : Nat} {n : Int} {x : Int32} {q0 : Nat × Value} {r : List (Nat × Value)} (v : Int32) (pd : Nat) (hd : decode M.2.1 pc = .ok (.iinc i n, 3)) (hv : Int32.ofInt n = v) (hn : pc + 3 = pd) (hm : Nat.ble (i + 1) M.2.2.1 = true) (ho : List.all (q0 :: r) (xl_k i 1) = true) (k : xg_X xs d M (pd) (q0 :: (i, .int (x + v)) :: r) st σ Q) : xg_X xs d M (pc) (q0 :: (i, .int x) :: r) st σ Q := by
  intro p l e R s m args below meth c cells slots ad G cA Z hT hR H locs ls hP hS hl
  subst hn
  refine lv_iinc (k := 1) (x := x) hT.1 hT.2.1 hd hl rfl (by rw [hv]) (Nat.le_of_ble_eq_true hm) rfl (fun ls hl => ?_)
  have hl := xl_has (w := 1) (v := .int (x + v)) (lw := (q0 :: (i, .int (x + v)) :: r)) (fun q hq => by simp only [xl_k, Bool.and_eq_true, Bool.not_eq_true', Bool.and_eq_false_iff, beq_eq_false_iff_ne, ne_eq, xv_cat] at hq ⊢; simp_all) hl (fun q hq => xl_rep (pre := [q0]) ho hq)
  exact k p l e R s m args below meth c cells slots ad G cA Z hT hR H locs ls hP hS hl
theorem X_inc2 {i : Nat} {n : Int} {x : Int32} {q0 q1 : Nat × Value} {r : List (Nat × Value)} (v : Int32) (pd : Nat) (hd : decode M.2.1 pc = .ok (.iinc i n, 3)) (hv : Int32.ofInt n = v) (hn : pc + 3 = pd) (hm : Nat.ble (i + 1) M.2.2.1 = true) (ho : List.all (q0 :: q1 :: r) (xl_k i 1) = true) (k : xg_X xs d M (pd) (q0 :: q1 :: (i, .int (x + v)) :: r) st σ Q) : xg_X xs d M (pc) (q0 :: q1 :: (i, .int x) :: r) st σ Q := by
  intro p l e R s m args below meth c cells slots ad G cA Z hT hR H locs ls hP hS hl
  subst hn
  refine lv_iinc (k := 2) (x := x) hT.1 hT.2.1 hd hl rfl (by rw [hv]) (Nat.le_of_ble_eq_true hm) rfl (fun ls hl => ?_)
  have hl := xl_has (w := 1) (v := .int (x + v)) (lw := (q0 :: q1 :: (i, .int (x + v)) :: r)) (fun q hq => by simp only [xl_k, Bool.and_eq_true, Bool.not_eq_true', Bool.and_eq_false_iff, beq_eq_false_iff_ne, ne_eq, xv_cat] at hq ⊢; simp_all) hl (fun q hq => xl_rep (pre := [q0, q1]) ho hq)
  exact k p l e R s m args below meth c cells slots ad G cA Z hT hR H locs ls hP hS hl
theorem X_inc3 {i : Nat} {n : Int} {x : Int32} {q0 q1 q2 : Nat × Value} {r : List (Nat × Value)} (v : Int32) (pd : Nat) (hd : decode M.2.1 pc = .ok (.iinc i n, 3)) (hv : Int32.ofInt n = v) (hn : pc + 3 = pd) (hm : Nat.ble (i + 1) M.2.2.1 = true) (ho : List.all (q0 :: q1 :: q2 :: r) (xl_k i 1) = true) (k : xg_X xs d M (pd) (q0 :: q1 :: q2 :: (i, .int (x + v)) :: r) st σ Q) : xg_X xs d M (pc) (q0 :: q1 :: q2 :: (i, .int x) :: r) st σ Q := by
  intro p l e R s m args below meth c cells slots ad G cA Z hT hR H locs ls hP hS hl
  subst hn
  refine lv_iinc (k := 3) (x := x) hT.1 hT.2.1 hd hl rfl (by rw [hv]) (Nat.le_of_ble_eq_true hm) rfl (fun ls hl => ?_)
  have hl := xl_has (w := 1) (v := .int (x + v)) (lw := (q0 :: q1 :: q2 :: (i, .int (x + v)) :: r)) (fun q hq => by simp only [xl_k, Bool.and_eq_true, Bool.not_eq_true', Bool.and_eq_false_iff, beq_eq_false_iff_ne, ne_eq, xv_cat] at hq ⊢; simp_all) hl (fun q hq => xl_rep (pre := [q0, q1, q2]) ho hq)
  exact k p l e R s m args below meth c cells slots ad G cA Z hT hR H locs ls hP hS hl
theorem X_inc4 {i : Nat} {n : Int} {x : Int32} {q0 q1 q2 q3 : Nat × Value} {r : List (Nat × Value)} (v : Int32) (pd : Nat) (hd : decode M.2.1 pc = .ok (.iinc i n, 3)) (hv : Int32.ofInt n = v) (hn : pc + 3 = pd) (hm : Nat.ble (i + 1) M.2.2.1 = true) (ho : List.all (q0 :: q1 :: q2 :: q3 :: r) (xl_k i 1) = true) (k : xg_X xs d M (pd) (q0 :: q1 :: q2 :: q3 :: (i, .int (x + v)) :: r) st σ Q) : xg_X xs d M (pc) (q0 :: q1 :: q2 :: q3 :: (i, .int x) :: r) st σ Q := by
  intro p l e R s m args below meth c cells slots ad G cA Z hT hR H locs ls hP hS hl
  subst hn
  refine lv_iinc (k := 4) (x := x) hT.1 hT.2.1 hd hl rfl (by rw [hv]) (Nat.le_of_ble_eq_true hm) rfl (fun ls hl => ?_)
  have hl := xl_has (w := 1) (v := .int (x + v)) (lw := (q0 :: q1 :: q2 :: q3 :: (i, .int (x + v)) :: r)) (fun q hq => by simp only [xl_k, Bool.and_eq_true, Bool.not_eq_true', Bool.and_eq_false_iff, beq_eq_false_iff_ne, ne_eq, xv_cat] at hq ⊢; simp_all) hl (fun q hq => xl_rep (pre := [q0, q1, q2, q3]) ho hq)
  exact k p l e R s m args below meth c cells slots ad G cA Z hT hR H locs ls hP hS hl
theorem X_inc5 {i : Nat} {n : Int} {x : Int32} {q0 q1 q2 q3 q4 : Nat × Value} {r : List (Nat × Value)} (v : Int32) (pd : Nat) (hd : decode M.2.1 pc = .ok (.iinc i n, 3)) (hv : Int32.ofInt n = v) (hn : pc + 3 = pd) (hm : Nat.ble (i + 1) M.2.2.1 = true) (ho : List.all (q0 :: q1 :: q2 :: q3 :: q4 :: r) (xl_k i 1) = true) (k : xg_X xs d M (pd) (q0 :: q1 :: q2 :: q3 :: q4 :: (i, .int (x + v)) :: r) st σ Q) : xg_X xs d M (pc) (q0 :: q1 :: q2 :: q3 :: q4 :: (i, .int x) :: r) st σ Q := by
  intro p l e R s m args below meth c cells slots ad G cA Z hT hR H locs ls hP hS hl
  subst hn
  refine lv_iinc (k := 5) (x := x) hT.1 hT.2.1 hd hl rfl (by rw [hv]) (Nat.le_of_ble_eq_true hm) rfl (fun ls hl => ?_)
  have hl := xl_has (w := 1) (v := .int (x + v)) (lw := (q0 :: q1 :: q2 :: q3 :: q4 :: (i, .int (x + v)) :: r)) (fun q hq => by simp only [xl_k, Bool.and_eq_true, Bool.not_eq_true', Bool.and_eq_false_iff, beq_eq_false_iff_ne, ne_eq, xv_cat] at hq ⊢; simp_all) hl (fun q hq => xl_rep (pre := [q0, q1, q2, q3, q4]) ho hq)
  exact k p l e R s m args below meth c cells slots ad G cA Z hT hR H locs ls hP hS hl
theorem X_inc6 {i : Nat} {n : Int} {x : Int32} {q0 q1 q2 q3 q4 q5 : Nat × Value} {r : List (Nat × Value)} (v : Int32) (pd : Nat) (hd : decode M.2.1 pc = .ok (.iinc i n, 3)) (hv : Int32.ofInt n = v) (hn : pc + 3 = pd) (hm : Nat.ble (i + 1) M.2.2.1 = true) (ho : List.all (q0 :: q1 :: q2 :: q3 :: q4 :: q5 :: r) (xl_k i 1) = true) (k : xg_X xs d M (pd) (q0 :: q1 :: q2 :: q3 :: q4 :: q5 :: (i, .int (x + v)) :: r) st σ Q) : xg_X xs d M (pc) (q0 :: q1 :: q2 :: q3 :: q4 :: q5 :: (i, .int x) :: r) st σ Q := by
  intro p l e R s m args below meth c cells slots ad G cA Z hT hR H locs ls hP hS hl
  subst hn
  refine lv_iinc (k := 6) (x := x) hT.1 hT.2.1 hd hl rfl (by rw [hv]) (Nat.le_of_ble_eq_true hm) rfl (fun ls hl => ?_)
  have hl := xl_has (w := 1) (v := .int (x + v)) (lw := (q0 :: q1 :: q2 :: q3 :: q4 :: q5 :: (i, .int (x + v)) :: r)) (fun q hq => by simp only [xl_k, Bool.and_eq_true, Bool.not_eq_true', Bool.and_eq_false_iff, beq_eq_false_iff_ne, ne_eq, xv_cat] at hq ⊢; simp_all) hl (fun q hq => xl_rep (pre := [q0, q1, q2, q3, q4, q5]) ho hq)
  exact k p l e R s m args below meth c cells slots ad G cA Z hT hR H locs ls hP hS hl
theorem X_inc7 {i : Nat} {n : Int} {x : Int32} {q0 q1 q2 q3 q4 q5 q6 : Nat × Value} {r : List (Nat × Value)} (v : Int32) (pd : Nat) (hd : decode M.2.1 pc = .ok (.iinc i n, 3)) (hv : Int32.ofInt n = v) (hn : pc + 3 = pd) (hm : Nat.ble (i + 1) M.2.2.1 = true) (ho : List.all (q0 :: q1 :: q2 :: q3 :: q4 :: q5 :: q6 :: r) (xl_k i 1) = true) (k : xg_X xs d M (pd) (q0 :: q1 :: q2 :: q3 :: q4 :: q5 :: q6 :: (i, .int (x + v)) :: r) st σ Q) : xg_X xs d M (pc) (q0 :: q1 :: q2 :: q3 :: q4 :: q5 :: q6 :: (i, .int x) :: r) st σ Q := by
  intro p l e R s m args below meth c cells slots ad G cA Z hT hR H locs ls hP hS hl
  subst hn
  refine lv_iinc (k := 7) (x := x) hT.1 hT.2.1 hd hl rfl (by rw [hv]) (Nat.le_of_ble_eq_true hm) rfl (fun ls hl => ?_)
  have hl := xl_has (w := 1) (v := .int (x + v)) (lw := (q0 :: q1 :: q2 :: q3 :: q4 :: q5 :: q6 :: (i, .int (x + v)) :: r)) (fun q hq => by simp only [xl_k, Bool.and_eq_true, Bool.not_eq_true', Bool.and_eq_false_iff, beq_eq_false_iff_ne, ne_eq, xv_cat] at hq ⊢; simp_all) hl (fun q hq => xl_rep (pre := [q0, q1, q2, q3, q4, q5, q6]) ho hq)
  exact k p l e R s m args below meth c cells slots ad G cA Z hT hR H locs ls hP hS hl
theorem X_inc8 {i : Nat} {n : Int} {x : Int32} {q0 q1 q2 q3 q4 q5 q6 q7 : Nat × Value} {r : List (Nat × Value)} (v : Int32) (pd : Nat) (hd : decode M.2.1 pc = .ok (.iinc i n, 3)) (hv : Int32.ofInt n = v) (hn : pc + 3 = pd) (hm : Nat.ble (i + 1) M.2.2.1 = true) (ho : List.all (q0 :: q1 :: q2 :: q3 :: q4 :: q5 :: q6 :: q7 :: r) (xl_k i 1) = true) (k : xg_X xs d M (pd) (q0 :: q1 :: q2 :: q3 :: q4 :: q5 :: q6 :: q7 :: (i, .int (x + v)) :: r) st σ Q) : xg_X xs d M (pc) (q0 :: q1 :: q2 :: q3 :: q4 :: q5 :: q6 :: q7 :: (i, .int x) :: r) st σ Q := by
  intro p l e R s m args below meth c cells slots ad G cA Z hT hR H locs ls hP hS hl
  subst hn
  refine lv_iinc (k := 8) (x := x) hT.1 hT.2.1 hd hl rfl (by rw [hv]) (Nat.le_of_ble_eq_true hm) rfl (fun ls hl => ?_)
  have hl := xl_has (w := 1) (v := .int (x + v)) (lw := (q0 :: q1 :: q2 :: q3 :: q4 :: q5 :: q6 :: q7 :: (i, .int (x + v)) :: r)) (fun q hq => by simp only [xl_k, Bool.and_eq_true, Bool.not_eq_true', Bool.and_eq_false_iff, beq_eq_false_iff_ne, ne_eq, xv_cat] at hq ⊢; simp_all) hl (fun q hq => xl_rep (pre := [q0, q1, q2, q3, q4, q5, q6, q7]) ho hq)
  exact k p l e R s m args below meth c cells slots ad G cA Z hT hR H locs ls hP hS hl
theorem X_inc9 {i : Nat} {n : Int} {x : Int32} {q0 q1 q2 q3 q4 q5 q6 q7 q8 : Nat × Value} {r : List (Nat × Value)} (v : Int32) (pd : Nat) (hd : decode M.2.1 pc = .ok (.iinc i n, 3)) (hv : Int32.ofInt n = v) (hn : pc + 3 = pd) (hm : Nat.ble (i + 1) M.2.2.1 = true) (ho : List.all (q0 :: q1 :: q2 :: q3 :: q4 :: q5 :: q6 :: q7 :: q8 :: r) (xl_k i 1) = true) (k : xg_X xs d M (pd) (q0 :: q1 :: q2 :: q3 :: q4 :: q5 :: q6 :: q7 :: q8 :: (i, .int (x + v)) :: r) st σ Q) : xg_X xs d M (pc) (q0 :: q1 :: q2 :: q3 :: q4 :: q5 :: q6 :: q7 :: q8 :: (i, .int x) :: r) st σ Q := by
  intro p l e R s m args below meth c cells slots ad G cA Z hT hR H locs ls hP hS hl
  subst hn
  refine lv_iinc (k := 9) (x := x) hT.1 hT.2.1 hd hl rfl (by rw [hv]) (Nat.le_of_ble_eq_true hm) rfl (fun ls hl => ?_)
  have hl := xl_has (w := 1) (v := .int (x + v)) (lw := (q0 :: q1 :: q2 :: q3 :: q4 :: q5 :: q6 :: q7 :: q8 :: (i, .int (x + v)) :: r)) (fun q hq => by simp only [xl_k, Bool.and_eq_true, Bool.not_eq_true', Bool.and_eq_false_iff, beq_eq_false_iff_ne, ne_eq, xv_cat] at hq ⊢; simp_all) hl (fun q hq => xl_rep (pre := [q0, q1, q2, q3, q4, q5, q6, q7, q8]) ho hq)
  exact k p l e R s m args below meth c cells slots ad G cA Z hT hR H locs ls hP hS hl
theorem X_inc10 {i : Nat} {n : Int} {x : Int32} {q0 q1 q2 q3 q4 q5 q6 q7 q8 q9 : Nat × Value} {r : List (Nat × Value)} (v : Int32) (pd : Nat) (hd : decode M.2.1 pc = .ok (.iinc i n, 3)) (hv : Int32.ofInt n = v) (hn : pc + 3 = pd) (hm : Nat.ble (i + 1) M.2.2.1 = true) (ho : List.all (q0 :: q1 :: q2 :: q3 :: q4 :: q5 :: q6 :: q7 :: q8 :: q9 :: r) (xl_k i 1) = true) (k : xg_X xs d M (pd) (q0 :: q1 :: q2 :: q3 :: q4 :: q5 :: q6 :: q7 :: q8 :: q9 :: (i, .int (x + v)) :: r) st σ Q) : xg_X xs d M (pc) (q0 :: q1 :: q2 :: q3 :: q4 :: q5 :: q6 :: q7 :: q8 :: q9 :: (i, .int x) :: r) st σ Q := by
  intro p l e R s m args below meth c cells slots ad G cA Z hT hR H locs ls hP hS hl
  subst hn
  refine lv_iinc (k := 10) (x := x) hT.1 hT.2.1 hd hl rfl (by rw [hv]) (Nat.le_of_ble_eq_true hm) rfl (fun ls hl => ?_)
  have hl := xl_has (w := 1) (v := .int (x + v)) (lw := (q0 :: q1 :: q2 :: q3 :: q4 :: q5 :: q6 :: q7 :: q8 :: q9 :: (i, .int (x + v)) :: r)) (fun q hq => by simp only [xl_k, Bool.and_eq_true, Bool.not_eq_true', Bool.and_eq_false_iff, beq_eq_false_iff_ne, ne_eq, xv_cat] at hq ⊢; simp_all) hl (fun q hq => xl_rep (pre := [q0, q1, q2, q3, q4, q5, q6, q7, q8, q9]) ho hq)
  exact k p l e R s m args below meth c cells slots ad G cA Z hT hR H locs ls hP hS hl
theorem X_inc11 {i : Nat} {n : Int} {x : Int32} {q0 q1 q2 q3 q4 q5 q6 q7 q8 q9 q10 : Nat × Value} {r : List (Nat × Value)} (v : Int32) (pd : Nat) (hd : decode M.2.1 pc = .ok (.iinc i n, 3)) (hv : Int32.ofInt n = v) (hn : pc + 3 = pd) (hm : Nat.ble (i + 1) M.2.2.1 = true) (ho : List.all (q0 :: q1 :: q2 :: q3 :: q4 :: q5 :: q6 :: q7 :: q8 :: q9 :: q10 :: r) (xl_k i 1) = true) (k : xg_X xs d M (pd) (q0 :: q1 :: q2 :: q3 :: q4 :: q5 :: q6 :: q7 :: q8 :: q9 :: q10 :: (i, .int (x + v)) :: r) st σ Q) : xg_X xs d M (pc) (q0 :: q1 :: q2 :: q3 :: q4 :: q5 :: q6 :: q7 :: q8 :: q9 :: q10 :: (i, .int x) :: r) st σ Q := by
  intro p l e R s m args below meth c cells slots ad G cA Z hT hR H locs ls hP hS hl
  subst hn
  refine lv_iinc (k := 11) (x := x) hT.1 hT.2.1 hd hl rfl (by rw [hv]) (Nat.le_of_ble_eq_true hm) rfl (fun ls hl => ?_)
  have hl := xl_has (w := 1) (v := .int (x + v)) (lw := (q0 :: q1 :: q2 :: q3 :: q4 :: q5 :: q6 :: q7 :: q8 :: q9 :: q10 :: (i, .int (x + v)) :: r)) (fun q hq => by simp only [xl_k, Bool.and_eq_true, Bool.not_eq_true', Bool.and_eq_false_iff, beq_eq_false_iff_ne, ne_eq, xv_cat] at hq ⊢; simp_all) hl (fun q hq => xl_rep (pre := [q0, q1, q2, q3, q4, q5, q6, q7, q8, q9, q10]) ho hq)
  exact k p l e R s m args below meth c cells slots ad G cA Z hT hR H locs ls hP hS hl
theorem X_inc12 {i : Nat} {n : Int} {x : Int32} {q0 q1 q2 q3 q4 q5 q6 q7 q8 q9 q10 q11 : Nat × Value} {r : List (Nat × Value)} (v : Int32) (pd : Nat) (hd : decode M.2.1 pc = .ok (.iinc i n, 3)) (hv : Int32.ofInt n = v) (hn : pc + 3 = pd) (hm : Nat.ble (i + 1) M.2.2.1 = true) (ho : List.all (q0 :: q1 :: q2 :: q3 :: q4 :: q5 :: q6 :: q7 :: q8 :: q9 :: q10 :: q11 :: r) (xl_k i 1) = true) (k : xg_X xs d M (pd) (q0 :: q1 :: q2 :: q3 :: q4 :: q5 :: q6 :: q7 :: q8 :: q9 :: q10 :: q11 :: (i, .int (x + v)) :: r) st σ Q) : xg_X xs d M (pc) (q0 :: q1 :: q2 :: q3 :: q4 :: q5 :: q6 :: q7 :: q8 :: q9 :: q10 :: q11 :: (i, .int x) :: r) st σ Q := by
  intro p l e R s m args below meth c cells slots ad G cA Z hT hR H locs ls hP hS hl
  subst hn
  refine lv_iinc (k := 12) (x := x) hT.1 hT.2.1 hd hl rfl (by rw [hv]) (Nat.le_of_ble_eq_true hm) rfl (fun ls hl => ?_)
  have hl := xl_has (w := 1) (v := .int (x + v)) (lw := (q0 :: q1 :: q2 :: q3 :: q4 :: q5 :: q6 :: q7 :: q8 :: q9 :: q10 :: q11 :: (i, .int (x + v)) :: r)) (fun q hq => by simp only [xl_k, Bool.and_eq_true, Bool.not_eq_true', Bool.and_eq_false_iff, beq_eq_false_iff_ne, ne_eq, xv_cat] at hq ⊢; simp_all) hl (fun q hq => xl_rep (pre := [q0, q1, q2, q3, q4, q5, q6, q7, q8, q9, q10, q11]) ho hq)
  exact k p l e R s m args below meth c cells slots ad G cA Z hT hR H locs ls hP hS hl
theorem X_inc13 {i : Nat} {n : Int} {x : Int32} {q0 q1 q2 q3 q4 q5 q6 q7 q8 q9 q10 q11 q12 : Nat × Value} {r : List (Nat × Value)} (v : Int32) (pd : Nat) (hd : decode M.2.1 pc = .ok (.iinc i n, 3)) (hv : Int32.ofInt n = v) (hn : pc + 3 = pd) (hm : Nat.ble (i + 1) M.2.2.1 = true) (ho : List.all (q0 :: q1 :: q2 :: q3 :: q4 :: q5 :: q6 :: q7 :: q8 :: q9 :: q10 :: q11 :: q12 :: r) (xl_k i 1) = true) (k : xg_X xs d M (pd) (q0 :: q1 :: q2 :: q3 :: q4 :: q5 :: q6 :: q7 :: q8 :: q9 :: q10 :: q11 :: q12 :: (i, .int (x + v)) :: r) st σ Q) : xg_X xs d M (pc) (q0 :: q1 :: q2 :: q3 :: q4 :: q5 :: q6 :: q7 :: q8 :: q9 :: q10 :: q11 :: q12 :: (i, .int x) :: r) st σ Q := by
  intro p l e R s m args below meth c cells slots ad G cA Z hT hR H locs ls hP hS hl
  subst hn
  refine lv_iinc (k := 13) (x := x) hT.1 hT.2.1 hd hl rfl (by rw [hv]) (Nat.le_of_ble_eq_true hm) rfl (fun ls hl => ?_)
  have hl := xl_has (w := 1) (v := .int (x + v)) (lw := (q0 :: q1 :: q2 :: q3 :: q4 :: q5 :: q6 :: q7 :: q8 :: q9 :: q10 :: q11 :: q12 :: (i, .int (x + v)) :: r)) (fun q hq => by simp only [xl_k, Bool.and_eq_true, Bool.not_eq_true', Bool.and_eq_false_iff, beq_eq_false_iff_ne, ne_eq, xv_cat] at hq ⊢; simp_all) hl (fun q hq => xl_rep (pre := [q0, q1, q2, q3, q4, q5, q6, q7, q8, q9, q10, q11, q12]) ho hq)
  exact k p l e R s m args below meth c cells slots ad G cA Z hT hR H locs ls hP hS hl
theorem X_inc14 {i : Nat} {n : Int} {x : Int32} {q0 q1 q2 q3 q4 q5 q6 q7 q8 q9 q10 q11 q12 q13 : Nat × Value} {r : List (Nat × Value)} (v : Int32) (pd : Nat) (hd : decode M.2.1 pc = .ok (.iinc i n, 3)) (hv : Int32.ofInt n = v) (hn : pc + 3 = pd) (hm : Nat.ble (i + 1) M.2.2.1 = true) (ho : List.all (q0 :: q1 :: q2 :: q3 :: q4 :: q5 :: q6 :: q7 :: q8 :: q9 :: q10 :: q11 :: q12 :: q13 :: r) (xl_k i 1) = true) (k : xg_X xs d M (pd) (q0 :: q1 :: q2 :: q3 :: q4 :: q5 :: q6 :: q7 :: q8 :: q9 :: q10 :: q11 :: q12 :: q13 :: (i, .int (x + v)) :: r) st σ Q) : xg_X xs d M (pc) (q0 :: q1 :: q2 :: q3 :: q4 :: q5 :: q6 :: q7 :: q8 :: q9 :: q10 :: q11 :: q12 :: q13 :: (i, .int x) :: r) st σ Q := by
  intro p l e R s m args below meth c cells slots ad G cA Z hT hR H locs ls hP hS hl
  subst hn
  refine lv_iinc (k := 14) (x := x) hT.1 hT.2.1 hd hl rfl (by rw [hv]) (Nat.le_of_ble_eq_true hm) rfl (fun ls hl => ?_)
  have hl := xl_has (w := 1) (v := .int (x + v)) (lw := (q0 :: q1 :: q2 :: q3 :: q4 :: q5 :: q6 :: q7 :: q8 :: q9 :: q10 :: q11 :: q12 :: q13 :: (i, .int (x + v)) :: r)) (fun q hq => by simp only [xl_k, Bool.and_eq_true, Bool.not_eq_true', Bool.and_eq_false_iff, beq_eq_false_iff_ne, ne_eq, xv_cat] at hq ⊢; simp_all) hl (fun q hq => xl_rep (pre := [q0, q1, q2, q3, q4, q5, q6, q7, q8, q9, q10, q11, q12, q13]) ho hq)
  exact k p l e R s m args below meth c cells slots ad G cA Z hT hR H locs ls hP hS hl
theorem X_iadd {x y : Int32} (pd : Nat) (hd : decode M.2.1 pc = .ok (.iadd, 1)) (hn : pc + 1 = pd) (k : xg_X xs d M (pd) lv (.int (x + y) :: st) σ Q) : xg_X xs d M (pc) lv (.int y :: .int x :: st) σ Q := by
  intro p l e R s m args below meth c cells slots ad G cA Z hT hR H locs ls hP hS hl
  subst hn
  exact lv_iadd hT.1 hT.2.1 hd (k p l e R s m args below meth c cells slots ad G cA Z hT hR H locs ls hP hS hl)
theorem X_isub {x y : Int32} (pd : Nat) (hd : decode M.2.1 pc = .ok (.isub, 1)) (hn : pc + 1 = pd) (k : xg_X xs d M (pd) lv (.int (x - y) :: st) σ Q) : xg_X xs d M (pc) lv (.int y :: .int x :: st) σ Q := by
  intro p l e R s m args below meth c cells slots ad G cA Z hT hR H locs ls hP hS hl
  subst hn
  exact lv_isub hT.1 hT.2.1 hd (k p l e R s m args below meth c cells slots ad G cA Z hT hR H locs ls hP hS hl)
theorem X_imul {x y : Int32} (pd : Nat) (hd : decode M.2.1 pc = .ok (.imul, 1)) (hn : pc + 1 = pd) (k : xg_X xs d M (pd) lv (.int (x * y) :: st) σ Q) : xg_X xs d M (pc) lv (.int y :: .int x :: st) σ Q := by
  intro p l e R s m args below meth c cells slots ad G cA Z hT hR H locs ls hP hS hl
  subst hn
  exact lv_imul hT.1 hT.2.1 hd (k p l e R s m args below meth c cells slots ad G cA Z hT hR H locs ls hP hS hl)
theorem X_iand {x y : Int32} (pd : Nat) (hd : decode M.2.1 pc = .ok (.iand, 1)) (hn : pc + 1 = pd) (k : xg_X xs d M (pd) lv (.int (x &&& y) :: st) σ Q) : xg_X xs d M (pc) lv (.int y :: .int x :: st) σ Q := by
  intro p l e R s m args below meth c cells slots ad G cA Z hT hR H locs ls hP hS hl
  subst hn
  exact lv_iand hT.1 hT.2.1 hd (k p l e R s m args below meth c cells slots ad G cA Z hT hR H locs ls hP hS hl)
theorem X_ior {x y : Int32} (pd : Nat) (hd : decode M.2.1 pc = .ok (.ior, 1)) (hn : pc + 1 = pd) (k : xg_X xs d M (pd) lv (.int (x ||| y) :: st) σ Q) : xg_X xs d M (pc) lv (.int y :: .int x :: st) σ Q := by
  intro p l e R s m args below meth c cells slots ad G cA Z hT hR H locs ls hP hS hl
  subst hn
  exact lv_ior hT.1 hT.2.1 hd (k p l e R s m args below meth c cells slots ad G cA Z hT hR H locs ls hP hS hl)
theorem X_ixor {x y : Int32} (pd : Nat) (hd : decode M.2.1 pc = .ok (.ixor, 1)) (hn : pc + 1 = pd) (k : xg_X xs d M (pd) lv (.int (x ^^^ y) :: st) σ Q) : xg_X xs d M (pc) lv (.int y :: .int x :: st) σ Q := by
  intro p l e R s m args below meth c cells slots ad G cA Z hT hR H locs ls hP hS hl
  subst hn
  exact lv_ixor hT.1 hT.2.1 hd (k p l e R s m args below meth c cells slots ad G cA Z hT hR H locs ls hP hS hl)
theorem X_ishl {x y : Int32} (pd : Nat) (hd : decode M.2.1 pc = .ok (.ishl, 1)) (hn : pc + 1 = pd) (k : xg_X xs d M (pd) lv (.int (x <<< (y &&& 31)) :: st) σ Q) : xg_X xs d M (pc) lv (.int y :: .int x :: st) σ Q := by
  intro p l e R s m args below meth c cells slots ad G cA Z hT hR H locs ls hP hS hl
  subst hn
  exact lv_ishl hT.1 hT.2.1 hd (k p l e R s m args below meth c cells slots ad G cA Z hT hR H locs ls hP hS hl)
theorem X_ishr {x y : Int32} (pd : Nat) (hd : decode M.2.1 pc = .ok (.ishr, 1)) (hn : pc + 1 = pd) (k : xg_X xs d M (pd) lv (.int (x >>> (y &&& 31)) :: st) σ Q) : xg_X xs d M (pc) lv (.int y :: .int x :: st) σ Q := by
  intro p l e R s m args below meth c cells slots ad G cA Z hT hR H locs ls hP hS hl
  subst hn
  exact lv_ishr hT.1 hT.2.1 hd (k p l e R s m args below meth c cells slots ad G cA Z hT hR H locs ls hP hS hl)
theorem X_ladd {x y : Int64} (pd : Nat) (hd : decode M.2.1 pc = .ok (.ladd, 1)) (hn : pc + 1 = pd) (k : xg_X xs d M (pd) lv (.long (x + y) :: st) σ Q) : xg_X xs d M (pc) lv (.long y :: .long x :: st) σ Q := by
  intro p l e R s m args below meth c cells slots ad G cA Z hT hR H locs ls hP hS hl
  subst hn
  exact lv_ladd hT.1 hT.2.1 hd (k p l e R s m args below meth c cells slots ad G cA Z hT hR H locs ls hP hS hl)
theorem X_lsub {x y : Int64} (pd : Nat) (hd : decode M.2.1 pc = .ok (.lsub, 1)) (hn : pc + 1 = pd) (k : xg_X xs d M (pd) lv (.long (x - y) :: st) σ Q) : xg_X xs d M (pc) lv (.long y :: .long x :: st) σ Q := by
  intro p l e R s m args below meth c cells slots ad G cA Z hT hR H locs ls hP hS hl
  subst hn
  exact lv_lsub hT.1 hT.2.1 hd (k p l e R s m args below meth c cells slots ad G cA Z hT hR H locs ls hP hS hl)
theorem X_lmul {x y : Int64} (pd : Nat) (hd : decode M.2.1 pc = .ok (.lmul, 1)) (hn : pc + 1 = pd) (k : xg_X xs d M (pd) lv (.long (x * y) :: st) σ Q) : xg_X xs d M (pc) lv (.long y :: .long x :: st) σ Q := by
  intro p l e R s m args below meth c cells slots ad G cA Z hT hR H locs ls hP hS hl
  subst hn
  exact lv_lmul hT.1 hT.2.1 hd (k p l e R s m args below meth c cells slots ad G cA Z hT hR H locs ls hP hS hl)
theorem X_idiv {x y : Int32} (pd : Nat) (hd : decode M.2.1 pc = .ok (.idiv, 1)) (hn : pc + 1 = pd) (hz : ¬ y = 0) (k : xg_X xs d M (pd) lv (.int (x / y) :: st) σ Q) : xg_X xs d M (pc) lv (.int y :: .int x :: st) σ Q := by
  intro p l e R s m args below meth c cells slots ad G cA Z hT hR H locs ls hP hS hl
  subst hn
  exact lv_idiv hT.1 hT.2.1 hd hz (k p l e R s m args below meth c cells slots ad G cA Z hT hR H locs ls hP hS hl)
theorem X_irem {x y : Int32} (pd : Nat) (hd : decode M.2.1 pc = .ok (.irem, 1)) (hn : pc + 1 = pd) (hz : ¬ y = 0) (k : xg_X xs d M (pd) lv (.int (x - x / y * y) :: st) σ Q) : xg_X xs d M (pc) lv (.int y :: .int x :: st) σ Q := by
  intro p l e R s m args below meth c cells slots ad G cA Z hT hR H locs ls hP hS hl
  subst hn
  exact lv_irem hT.1 hT.2.1 hd hz (k p l e R s m args below meth c cells slots ad G cA Z hT hR H locs ls hP hS hl)
theorem X_ldiv {x y : Int64} (pd : Nat) (hd : decode M.2.1 pc = .ok (.ldiv, 1)) (hn : pc + 1 = pd) (hz : ¬ y = 0) (k : xg_X xs d M (pd) lv (.long (x / y) :: st) σ Q) : xg_X xs d M (pc) lv (.long y :: .long x :: st) σ Q := by
  intro p l e R s m args below meth c cells slots ad G cA Z hT hR H locs ls hP hS hl
  subst hn
  exact lv_ldiv hT.1 hT.2.1 hd hz (k p l e R s m args below meth c cells slots ad G cA Z hT hR H locs ls hP hS hl)
theorem X_lrem {x y : Int64} (pd : Nat) (hd : decode M.2.1 pc = .ok (.lrem, 1)) (hn : pc + 1 = pd) (hz : ¬ y = 0) (k : xg_X xs d M (pd) lv (.long (x - x / y * y) :: st) σ Q) : xg_X xs d M (pc) lv (.long y :: .long x :: st) σ Q := by
  intro p l e R s m args below meth c cells slots ad G cA Z hT hR H locs ls hP hS hl
  subst hn
  exact lv_lrem hT.1 hT.2.1 hd hz (k p l e R s m args below meth c cells slots ad G cA Z hT hR H locs ls hP hS hl)
theorem X_iushr {x y : Int32} (pd : Nat) (hd : decode M.2.1 pc = .ok (.iushr, 1)) (hn : pc + 1 = pd) (k : xg_X xs d M (pd) lv (.int ((x.toUInt32 >>> (y.toUInt32 &&& Int32.toUInt32 31)).toInt32) :: st) σ Q) : xg_X xs d M (pc) lv (.int y :: .int x :: st) σ Q := by
  intro p l e R s m args below meth c cells slots ad G cA Z hT hR H locs ls hP hS hl
  subst hn
  exact lv_iushr hT.1 hT.2.1 hd rfl (k p l e R s m args below meth c cells slots ad G cA Z hT hR H locs ls hP hS hl)
theorem X_i2l {x : Int32} (pd : Nat) (hd : decode M.2.1 pc = .ok (.i2l, 1)) (hn : pc + 1 = pd) (k : xg_X xs d M (pd) lv (.long x.toInt64 :: st) σ Q) : xg_X xs d M (pc) lv (.int x :: st) σ Q := by
  intro p l e R s m args below meth c cells slots ad G cA Z hT hR H locs ls hP hS hl
  subst hn
  exact lv_i2l hT.1 hT.2.1 hd rfl (k p l e R s m args below meth c cells slots ad G cA Z hT hR H locs ls hP hS hl)
theorem X_i2c {x : Int32} (pd : Nat) (hd : decode M.2.1 pc = .ok (.i2c, 1)) (hn : pc + 1 = pd) (k : xg_X xs d M (pd) lv (.int (x.toUInt32 % 65536).toInt32 :: st) σ Q) : xg_X xs d M (pc) lv (.int x :: st) σ Q := by
  intro p l e R s m args below meth c cells slots ad G cA Z hT hR H locs ls hP hS hl
  subst hn
  exact lv_i2c hT.1 hT.2.1 hd rfl (k p l e R s m args below meth c cells slots ad G cA Z hT hR H locs ls hP hS hl)
theorem X_lcmp {x y : Int64} (pd : Nat) (hd : decode M.2.1 pc = .ok (.lcmp, 1)) (hn : pc + 1 = pd) (k : xg_X xs d M (pd) lv (.int (lg_cmp x y) :: st) σ Q) : xg_X xs d M (pc) lv (.long y :: .long x :: st) σ Q := by
  intro p l e R s m args below meth c cells slots ad G cA Z hT hR H locs ls hP hS hl
  subst hn
  exact W.lcmp hT.1 hT.2.1 hd (k p l e R s m args below meth c cells slots ad G cA Z hT hR H locs ls hP hS hl)
theorem X_dup {v : Value} (pd : Nat) (hd : decode M.2.1 pc = .ok (.dup, 1)) (hv : v.category = 1) (hn : pc + 1 = pd) (k : xg_X xs d M (pd) lv (v :: v :: st) σ Q) : xg_X xs d M (pc) lv (v :: st) σ Q := by
  intro p l e R s m args below meth c cells slots ad G cA Z hT hR H locs ls hP hS hl
  subst hn
  exact lv_dup hT.1 hT.2.1 hd (by rw [xv_cat]; exact hv) (k p l e R s m args below meth c cells slots ad G cA Z hT hR H locs ls hP hS hl)
theorem X_dup2 {v w : Value} (pd : Nat) (hd : decode M.2.1 pc = .ok (.dup2, 1)) (hv : v.category = 1) (hw : w.category = 1) (hn : pc + 1 = pd) (k : xg_X xs d M (pd) lv (v :: w :: v :: w :: st) σ Q) : xg_X xs d M (pc) lv (v :: w :: st) σ Q := by
  intro p l e R s m args below meth c cells slots ad G cA Z hT hR H locs ls hP hS hl
  subst hn
  exact lv_dup2_11 hT.1 hT.2.1 hd (by rw [xv_cat]; exact hv) (by rw [xv_cat]; exact hw) (k p l e R s m args below meth c cells slots ad G cA Z hT hR H locs ls hP hS hl)
theorem X_goto {off : Int} (tgt : Nat) (hd : decode M.2.1 pc = .ok (.goto off, 3)) (ht : (pc : Int) + off = (tgt : Int)) (k : xg_X xs d M (tgt) lv st σ Q) : xg_X xs d M (pc) lv st σ Q := by
  intro p l e R s m args below meth c cells slots ad G cA Z hT hR H locs ls hP hS hl
  exact lv_goto hT.1 hT.2.1 hd ht (k p l e R s m args below meth c cells slots ad G cA Z hT hR H locs ls hP hS hl)
theorem X_ifeq {x : Int32} {off : Int} (tgt pd : Nat) (hd : decode M.2.1 pc = .ok (.ifCond .eq off, 3)) (ht : (pc : Int) + off = (tgt : Int)) (hn : pc + 3 = pd) (kt : x = 0 → xg_X xs d M (tgt) lv st σ Q) (kf : ¬ x = 0 → xg_X xs d M (pd) lv st σ Q) : xg_X xs d M (pc) lv (.int x :: st) σ Q := by
  intro p l e R s m args below meth c cells slots ad G cA Z hT hR H locs ls hP hS hl
  subst hn
  exact lv_if_eq hT.1 hT.2.1 hd ht (fun h => kt h p l e R s m args below meth c cells slots ad G cA Z hT hR H locs ls hP hS hl) (fun h => kf h p l e R s m args below meth c cells slots ad G cA Z hT hR H locs ls hP hS hl)
theorem X_ifne {x : Int32} {off : Int} (tgt pd : Nat) (hd : decode M.2.1 pc = .ok (.ifCond .ne off, 3)) (ht : (pc : Int) + off = (tgt : Int)) (hn : pc + 3 = pd) (kt : ¬ x = 0 → xg_X xs d M (tgt) lv st σ Q) (kf : x = 0 → xg_X xs d M (pd) lv st σ Q) : xg_X xs d M (pc) lv (.int x :: st) σ Q := by
  intro p l e R s m args below meth c cells slots ad G cA Z hT hR H locs ls hP hS hl
  subst hn
  exact lv_if_ne hT.1 hT.2.1 hd ht (fun h => kt h p l e R s m args below meth c cells slots ad G cA Z hT hR H locs ls hP hS hl) (fun h => kf h p l e R s m args below meth c cells slots ad G cA Z hT hR H locs ls hP hS hl)
theorem X_iflt {x : Int32} {off : Int} (tgt pd : Nat) (hd : decode M.2.1 pc = .ok (.ifCond .lt off, 3)) (ht : (pc : Int) + off = (tgt : Int)) (hn : pc + 3 = pd) (kt : x < 0 → xg_X xs d M (tgt) lv st σ Q) (kf : ¬ x < 0 → xg_X xs d M (pd) lv st σ Q) : xg_X xs d M (pc) lv (.int x :: st) σ Q := by
  intro p l e R s m args below meth c cells slots ad G cA Z hT hR H locs ls hP hS hl
  subst hn
  exact lv_if_lt hT.1 hT.2.1 hd ht (fun h => kt h p l e R s m args below meth c cells slots ad G cA Z hT hR H locs ls hP hS hl) (fun h => kf h p l e R s m args below meth c cells slots ad G cA Z hT hR H locs ls hP hS hl)
theorem X_ifle {x : Int32} {off : Int} (tgt pd : Nat) (hd : decode M.2.1 pc = .ok (.ifCond .le off, 3)) (ht : (pc : Int) + off = (tgt : Int)) (hn : pc + 3 = pd) (kt : x ≤ 0 → xg_X xs d M (tgt) lv st σ Q) (kf : ¬ x ≤ 0 → xg_X xs d M (pd) lv st σ Q) : xg_X xs d M (pc) lv (.int x :: st) σ Q := by
  intro p l e R s m args below meth c cells slots ad G cA Z hT hR H locs ls hP hS hl
  subst hn
  exact lv_if_le hT.1 hT.2.1 hd ht (fun h => kt h p l e R s m args below meth c cells slots ad G cA Z hT hR H locs ls hP hS hl) (fun h => kf h p l e R s m args below meth c cells slots ad G cA Z hT hR H locs ls hP hS hl)
theorem X_ifge {x : Int32} {off : Int} (tgt pd : Nat) (hd : decode M.2.1 pc = .ok (.ifCond .ge off, 3)) (ht : (pc : Int) + off = (tgt : Int)) (hn : pc + 3 = pd) (kt : 0 ≤ x → xg_X xs d M (tgt) lv st σ Q) (kf : ¬ 0 ≤ x → xg_X xs d M (pd) lv st σ Q) : xg_X xs d M (pc) lv (.int x :: st) σ Q := by
  intro p l e R s m args below meth c cells slots ad G cA Z hT hR H locs ls hP hS hl
  subst hn
  exact lv_if_ge hT.1 hT.2.1 hd ht (fun h => kt h p l e R s m args below meth c cells slots ad G cA Z hT hR H locs ls hP hS hl) (fun h => kf h p l e R s m args below meth c cells slots ad G cA Z hT hR H locs ls hP hS hl)
theorem X_ifgt {x : Int32} {off : Int} (tgt pd : Nat) (hd : decode M.2.1 pc = .ok (.ifCond .gt off, 3)) (ht : (pc : Int) + off = (tgt : Int)) (hn : pc + 3 = pd) (kt : 0 < x → xg_X xs d M (tgt) lv st σ Q) (kf : ¬ 0 < x → xg_X xs d M (pd) lv st σ Q) : xg_X xs d M (pc) lv (.int x :: st) σ Q := by
  intro p l e R s m args below meth c cells slots ad G cA Z hT hR H locs ls hP hS hl
  subst hn
  exact lv_if_gt hT.1 hT.2.1 hd ht (fun h => kt h p l e R s m args below meth c cells slots ad G cA Z hT hR H locs ls hP hS hl) (fun h => kf h p l e R s m args below meth c cells slots ad G cA Z hT hR H locs ls hP hS hl)
theorem X_iceq {x y : Int32} {off : Int} (tgt pd : Nat) (hd : decode M.2.1 pc = .ok (.if_icmp .eq off, 3)) (ht : (pc : Int) + off = (tgt : Int)) (hn : pc + 3 = pd) (kt : x = y → xg_X xs d M (tgt) lv st σ Q) (kf : ¬ x = y → xg_X xs d M (pd) lv st σ Q) : xg_X xs d M (pc) lv (.int y :: .int x :: st) σ Q := by
  intro p l e R s m args below meth c cells slots ad G cA Z hT hR H locs ls hP hS hl
  subst hn
  exact lv_icmp_eq hT.1 hT.2.1 hd ht (fun h => kt h p l e R s m args below meth c cells slots ad G cA Z hT hR H locs ls hP hS hl) (fun h => kf h p l e R s m args below meth c cells slots ad G cA Z hT hR H locs ls hP hS hl)
theorem X_icne {x y : Int32} {off : Int} (tgt pd : Nat) (hd : decode M.2.1 pc = .ok (.if_icmp .ne off, 3)) (ht : (pc : Int) + off = (tgt : Int)) (hn : pc + 3 = pd) (kt : ¬ x = y → xg_X xs d M (tgt) lv st σ Q) (kf : x = y → xg_X xs d M (pd) lv st σ Q) : xg_X xs d M (pc) lv (.int y :: .int x :: st) σ Q := by
  intro p l e R s m args below meth c cells slots ad G cA Z hT hR H locs ls hP hS hl
  subst hn
  exact lv_icmp_ne hT.1 hT.2.1 hd ht (fun h => kt h p l e R s m args below meth c cells slots ad G cA Z hT hR H locs ls hP hS hl) (fun h => kf h p l e R s m args below meth c cells slots ad G cA Z hT hR H locs ls hP hS hl)
theorem X_iclt {x y : Int32} {off : Int} (tgt pd : Nat) (hd : decode M.2.1 pc = .ok (.if_icmp .lt off, 3)) (ht : (pc : Int) + off = (tgt : Int)) (hn : pc + 3 = pd) (kt : x < y → xg_X xs d M (tgt) lv st σ Q) (kf : ¬ x < y → xg_X xs d M (pd) lv st σ Q) : xg_X xs d M (pc) lv (.int y :: .int x :: st) σ Q := by
  intro p l e R s m args below meth c cells slots ad G cA Z hT hR H locs ls hP hS hl
  subst hn
  exact lv_icmp_lt hT.1 hT.2.1 hd ht (fun h => kt h p l e R s m args below meth c cells slots ad G cA Z hT hR H locs ls hP hS hl) (fun h => kf h p l e R s m args below meth c cells slots ad G cA Z hT hR H locs ls hP hS hl)
theorem X_icle {x y : Int32} {off : Int} (tgt pd : Nat) (hd : decode M.2.1 pc = .ok (.if_icmp .le off, 3)) (ht : (pc : Int) + off = (tgt : Int)) (hn : pc + 3 = pd) (kt : x ≤ y → xg_X xs d M (tgt) lv st σ Q) (kf : ¬ x ≤ y → xg_X xs d M (pd) lv st σ Q) : xg_X xs d M (pc) lv (.int y :: .int x :: st) σ Q := by
  intro p l e R s m args below meth c cells slots ad G cA Z hT hR H locs ls hP hS hl
  subst hn
  exact lv_icmp_le hT.1 hT.2.1 hd ht (fun h => kt h p l e R s m args below meth c cells slots ad G cA Z hT hR H locs ls hP hS hl) (fun h => kf h p l e R s m args below meth c cells slots ad G cA Z hT hR H locs ls hP hS hl)
theorem X_icge {x y : Int32} {off : Int} (tgt pd : Nat) (hd : decode M.2.1 pc = .ok (.if_icmp .ge off, 3)) (ht : (pc : Int) + off = (tgt : Int)) (hn : pc + 3 = pd) (kt : y ≤ x → xg_X xs d M (tgt) lv st σ Q) (kf : ¬ y ≤ x → xg_X xs d M (pd) lv st σ Q) : xg_X xs d M (pc) lv (.int y :: .int x :: st) σ Q := by
  intro p l e R s m args below meth c cells slots ad G cA Z hT hR H locs ls hP hS hl
  subst hn
  exact lv_icmp_ge hT.1 hT.2.1 hd ht (fun h => kt h p l e R s m args below meth c cells slots ad G cA Z hT hR H locs ls hP hS hl) (fun h => kf h p l e R s m args below meth c cells slots ad G cA Z hT hR H locs ls hP hS hl)
theorem X_icgt {x y : Int32} {off : Int} (tgt pd : Nat) (hd : decode M.2.1 pc = .ok (.if_icmp .gt off, 3)) (ht : (pc : Int) + off = (tgt : Int)) (hn : pc + 3 = pd) (kt : y < x → xg_X xs d M (tgt) lv st σ Q) (kf : ¬ y < x → xg_X xs d M (pd) lv st σ Q) : xg_X xs d M (pc) lv (.int y :: .int x :: st) σ Q := by
  intro p l e R s m args below meth c cells slots ad G cA Z hT hR H locs ls hP hS hl
  subst hn
  exact lv_icmp_gt hT.1 hT.2.1 hd ht (fun h => kt h p l e R s m args below meth c cells slots ad G cA Z hT hR H locs ls hP hS hl) (fun h => kf h p l e R s m args below meth c cells slots ad G cA Z hT hR H locs ls hP hS hl)
theorem X_tsw {x : Int32} {dflt lo hi : Int} {offs : Array Int} {len : Nat} (tgt : Nat) (hd : decode M.2.1 pc = .ok (.tableswitch dflt lo hi offs, len)) (ho : (x.toInt < lo ∨ hi < x.toInt) ∧ (pc : Int) + dflt = (tgt : Int) ∨ (¬ x.toInt < lo ∧ ¬ hi < x.toInt ∧ ∃ off, offs[(x.toInt - lo).toNat]? = some off ∧ (pc : Int) + off = (tgt : Int))) (k : xg_X xs d M (tgt) lv st σ Q) : xg_X xs d M (pc) lv (.int x :: st) σ Q := by
  intro p l e R s m args below meth c cells slots ad G cA Z hT hR H locs ls hP hS hl
  rcases ho with ⟨h1, h2⟩ | ⟨h1, h2, off, h3, h4⟩
  · exact lv_tableOut hT.1 hT.2.1 hd h1 h2 (k p l e R s m args below meth c cells slots ad G cA Z hT hR H locs ls hP hS hl)
  · exact lv_tableIn hT.1 hT.2.1 hd h1 h2 h3 h4 (k p l e R s m args below meth c cells slots ad G cA Z hT hR H locs ls hP hS hl)
theorem X_lsw {x : Int32} {dflt : Int} {ps : Array (Int × Int)} {len : Nat} (tgt : Nat) (hd : decode M.2.1 pc = .ok (.lookupswitch dflt ps, len)) (hp : (ps.toList.zip (ps.toList.drop 1)).all (fun (a, next) => a.1 < next.1) = true) (ht : (pc : Int) + Op.lookupswitch.offset ps.toList dflt x.toInt = (tgt : Int)) (k : xg_X xs d M (tgt) lv st σ Q) : xg_X xs d M (pc) lv (.int x :: st) σ Q := by
  intro p l e R s m args below meth c cells slots ad G cA Z hT hR H locs ls hP hS hl
  exact lv_lookup hT.1 hT.2.1 hd hp rfl ht (k p l e R s m args below meth c cells slots ad G cA Z hT hR H locs ls hP hS hl)
theorem X_iret {x : Int32} (hd : decode M.2.1 pc = .ok (.ireturn, 1)) (ht : M.2.2.2 = some .int) (hQ : Q (some (.int x)) σ) : xg_X xs d M (pc) lv [.int x] σ Q := by
  intro p l e R s m args below meth c cells slots ad G cA Z hT hR H locs ls hP hS hl
  exact hR (some (.int x)) σ H locs ls pc hQ hP hS (Or.inr (Or.inl ⟨x, .int, rfl, hd, ht, rfl⟩))
theorem X_nret {x : Int32} {ty : FieldType} (hd : decode M.2.1 pc = .ok (.ireturn, 1)) (ht : M.2.2.2 = some ty) (hx : narrow ty (.int x) = .int x) (hQ : Q (some (.int x)) σ) : xg_X xs d M (pc) lv [.int x] σ Q := by
  intro p l e R s m args below meth c cells slots ad G cA Z hT hR H locs ls hP hS hl
  exact hR (some (.int x)) σ H locs ls pc hQ hP hS (Or.inr (Or.inl ⟨x, ty, rfl, hd, ht, hx⟩))
theorem X_zret {x : Int32} (hd : decode M.2.1 pc = .ok (.ireturn, 1)) (ht : M.2.2.2 = some .boolean) (hx : x = 0 ∨ x = 1) (hQ : Q (some (.int x)) σ) : xg_X xs d M (pc) lv [.int x] σ Q := X_nret hd ht (by rcases hx with rfl | rfl <;> decide) hQ
theorem X_lret {x : Int64} (hd : decode M.2.1 pc = .ok (.lreturn, 1)) (ht : M.2.2.2 = some .long) (hQ : Q (some (.long x)) σ) : xg_X xs d M (pc) lv [.long x] σ Q := by
  intro p l e R s m args below meth c cells slots ad G cA Z hT hR H locs ls hP hS hl
  exact hR (some (.long x)) σ H locs ls pc hQ hP hS (Or.inr (Or.inr (Or.inl ⟨x, rfl, hd, ht⟩)))
theorem X_aret {x : Nat} {n : String} (hd : decode M.2.1 pc = .ok (.areturn, 1)) (ht : M.2.2.2 = some (.object n)) (hQ : Q (some (.ref x)) σ) : xg_X xs d M (pc) lv [.ref x] σ Q := by
  intro p l e R s m args below meth c cells slots ad G cA Z hT hR H locs ls hP hS hl
  exact hR (some (.ref x)) σ H locs ls pc hQ hP hS (Or.inr (Or.inr (Or.inr ⟨x, n, rfl, hd, ht⟩)))
theorem X_vret (hd : decode M.2.1 pc = .ok (.return_, 1)) (ht : M.2.2.2 = none) (hQ : Q none σ) : xg_X xs d M (pc) lv [] σ Q := by
  intro p l e R s m args below meth c cells slots ad G cA Z hT hR H locs ls hP hS hl
  exact hR none σ H locs ls pc hQ hP hS (Or.inl ⟨rfl, hd, ht⟩)
end RULES
end
section
section HEAP
variable {xs : Option (Nat × (Nat → Int32))} {d : Nat} {M : xg_Y} {pc : Nat} {lv : List (Nat × Value)} {st : List Value} {σ : xm_M} {Q : Option Value → xm_M → Prop}
/-- a link of a field: the class ci, its place k -/
def xg_fl (own : String) (idx ci k : Nat) : Prop := ∃ (C : String) (T : u_T) (N : Nat), vwCl[ci]? = some (C, T, N) ∧ k < N ∧ (∀ w ∈ u_ws C T N, w ∈ xg_tb) ∧ Cond.fieldLink own idx (T k).1 (T k).2.1 (T k).2.2.1 ∈ xg_tb
/-- one that may be written: of this type -/
def xg_fp (own : String) (idx ci k : Nat) (ty : FieldType) : Prop := ∃ (C : String) (T : u_T) (N : Nat) (ty0 : Nat → FieldType), vwCl[ci]? = some (C, T, N) ∧ k < N ∧ (∀ w ∈ u_ws C T N, w ∈ xg_tb) ∧ Cond.fieldLink own idx (T k).1 (T k).2.1 (T k).2.2.1 ∈ xg_tb ∧
  (∀ k, k < N → parseFieldDescriptor (T k).2.2.1 = some (ty0 k)) ∧ (∀ a, a < N → ∀ b, b < N → a ≠ b → (T a).2.1 ≠ (T b).2.1) ∧ (T k).2.2.2 = false ∧ parseFieldDescriptor (T k).2.2.1 = some ty
def xg_ob (a ci k c : Nat) : Bool := Nat.ble (a + 1) 52 && (Nat.beq (sh_cl a) ci && (Nat.ble (ci + 1) 9 && (Nat.ble (k + 1) (sh_f a).length && Nat.beq ((sh_f a).getD k 0) c)))
theorem xg_ob_of {a ci k c : Nat} (h : xg_ob a ci k c = true) : a < 52 ∧ sh_cl a = ci ∧ ci < 9 ∧ k < (sh_f a).length ∧ (sh_f a).getD k 0 = c := by
  simp only [xg_ob, Bool.and_eq_true] at h
  exact ⟨Nat.le_of_ble_eq_true h.1, Nat.eq_of_beq_eq_true h.2.1, Nat.le_of_ble_eq_true h.2.2.1, Nat.le_of_ble_eq_true h.2.2.2.1, Nat.eq_of_beq_eq_true h.2.2.2.2⟩
theorem xg_ob_cell {ad : Nat → Nat} {cA : Nat → ClassId} {σ : xm_M} {a ci : Nat} (h1 : a < 52) (h2 : sh_cl a = ci) (h3 : ci < 9) : (xw_w ad cA σ)[a]? = some (ad a, .inr (ci, xw_f ad σ a)) := by
  rw [xw_at h1]
  unfold xw_e
  rw [if_pos (by omega), h2]
theorem xg_f_at {ad : Nat → Nat} {σ : xm_M} {a k c : Nat} (h4 : k < (sh_f a).length) (h5 : (sh_f a).getD k 0 = c) : (xw_f ad σ a)[k]? = some (xw_v ad σ a k c) := by
  unfold xw_f
  simp [List.getElem?_map, List.getElem?_range, h4, ← h5]
theorem X_getI {idx ci k : Nat} {a : Nat} (pd : Nat) (hd : decode M.2.1 pc = .ok (.getfield idx, 3)) (hf : xg_fl M.1.cls idx ci k) (ho : xg_ob a ci k 0 = true) (hn : pc + 3 = pd) (kk : xg_X xs d M pd lv (.int (σ.1 a k) :: st) σ Q) : xg_X xs d M pc lv (.ref a :: st) σ Q := by
  intro p l e R s m args below meth c cells slots ad G cA Z hT hR H locs ls hP hS hl
  subst hn
  obtain ⟨C, T, N, hc, hk, hin, hlk⟩ := hf
  obtain ⟨h1, h2, h3, h4, h5⟩ := xg_ob_of ho
  exact va_get hT.1 hT.2.1 hT.2.2.2.2.1 hin hT.2.2.2.1 hT.2.2.2.2.2.2.1 hP a (xg_ob_cell h1 h2 h3) hc k hk (hT.2.2.2.2.1 _ hlk) (fun _ h => h) (xg_f_at h4 h5) hd (kk p l e R s m args below meth c cells slots ad G cA Z hT hR H locs ls hP hS hl)
theorem X_getL {idx ci k : Nat} {a : Nat} (pd : Nat) (hd : decode M.2.1 pc = .ok (.getfield idx, 3)) (hf : xg_fl M.1.cls idx ci k) (ho : xg_ob a ci k 1 = true) (hn : pc + 3 = pd) (kk : xg_X xs d M pd lv (.long σ.2 :: st) σ Q) : xg_X xs d M pc lv (.ref a :: st) σ Q := by
  intro p l e R s m args below meth c cells slots ad G cA Z hT hR H locs ls hP hS hl
  subst hn
  obtain ⟨C, T, N, hc, hk, hin, hlk⟩ := hf
  obtain ⟨h1, h2, h3, h4, h5⟩ := xg_ob_of ho
  exact va_get hT.1 hT.2.1 hT.2.2.2.2.1 hin hT.2.2.2.1 hT.2.2.2.2.2.2.1 hP a (xg_ob_cell h1 h2 h3) hc k hk (hT.2.2.2.2.1 _ hlk) (fun _ h => h) (xg_f_at h4 h5) hd (kk p l e R s m args below meth c cells slots ad G cA Z hT hR H locs ls hP hS hl)
theorem X_getA {idx ci k : Nat} {a : Nat} (j : Nat) (pd : Nat) (hd : decode M.2.1 pc = .ok (.getfield idx, 3)) (hf : xg_fl M.1.cls idx ci k) (ho : xg_ob a ci k (j + 2) = true) (hn : pc + 3 = pd) (kk : xg_X xs d M pd lv (.ref j :: st) σ Q) : xg_X xs d M pc lv (.ref a :: st) σ Q := by
  intro p l e R s m args below meth c cells slots ad G cA Z hT hR H locs ls hP hS hl
  subst hn
  obtain ⟨C, T, N, hc, hk, hin, hlk⟩ := hf
  obtain ⟨h1, h2, h3, h4, h5⟩ := xg_ob_of ho
  exact va_get hT.1 hT.2.1 hT.2.2.2.2.1 hin hT.2.2.2.1 hT.2.2.2.2.2.2.1 hP a (xg_ob_cell h1 h2 h3) hc k hk (hT.2.2.2.2.1 _ hlk) (fun _ h => h) (xg_f_at h4 h5) hd (kk p l e R s m args below meth c cells slots ad G cA Z hT hR H locs ls hP hS hl)
theorem xw_f_set {ad : Nat → Nat} {σ : xm_M} {a k : Nat} {v : Int32} (h4 : k < (sh_f a).length) (h5 : (sh_f a).getD k 0 = 0) : (xw_f ad σ a).set k (.int v) = xw_f ad (xm_set σ a k v) a := by
  apply List.ext_getElem?
  intro j
  by_cases hj : j < (sh_f a).length
  · rw [xg_f_at (σ := xm_set σ a k v) hj rfl]
    by_cases e : j = k
    · subst e
      rw [List.getElem?_set_self (by simp [xw_f]; exact h4), h5]
      simp [xw_v, xm_set]
    · rw [List.getElem?_set_ne (Ne.symm e), xg_f_at hj rfl]
      simp [xw_v, xm_set, e]
  · rw [List.getElem?_eq_none (by simp [xw_f]; omega), List.getElem?_eq_none (by simp [xw_f]; omega)]
theorem X_putI {idx ci k : Nat} {a : Nat} {v : Int32} (pd : Nat) (hd : decode M.2.1 pc = .ok (.putfield idx, 3)) (hf : xg_fp M.1.cls idx ci k .int) (ho : xg_ob a ci k 0 = true) (hn : pc + 3 = pd) (kk : xg_X xs d M pd lv st (xm_set σ a k v) Q) : xg_X xs d M pc lv (.int v :: .ref a :: st) σ Q := by
  intro p l e R s m args below meth c cells slots ad G cA Z hT hR H locs ls hP hS hl
  subst hn
  obtain ⟨C, T, N, ty0, hc, hk, hin, hlk, hty, hnm, hfin, hpt⟩ := hf
  obtain ⟨h1, h2, h3, h4, h5⟩ := xg_ob_of ho
  have hE : xw_e ad cA (xm_set σ a k v) a = .inr (ci, (xw_f ad σ a).set k (xv ad (.int v))) := by
    show _ = Sum.inr (ci, (xw_f ad σ a).set k (Value.int v))
    rw [xw_f_set h4 h5]; unfold xw_e; rw [if_pos (by omega), h2]
  refine va_put hT.1 hT.2.1 hT.2.2.2.2.1 hin ty0 hty hnm hT.2.2.2.1 hT.2.2.2.2.2.2.1 hP (xg_D hT.2.2.2.2.2.2.2.1) hS a (xg_ob_cell h1 h2 h3) hc k hk (hT.2.2.2.2.1 _ hlk) (fun _ h => h) hfin hpt rfl rfl (by simp [xw_f]; exact h4) hd (fun H1 locs1 hP1 hD1 hS1 => ?_)
  rw [← hE, xw_set h1 (fun b hb => xm_set_e hb)] at hP1
  exact kk p l e R s m args below meth c cells slots ad G cA Z hT hR H1 locs1 ls hP1 hS1 hl
theorem xw_tok_f {ad : Nat → Nat} {σ : xm_M} {t : Int64} : (xw_f ad σ 36).set 10 (.long t) = xw_f ad (xm_tok σ t) 36 := by
  apply List.ext_getElem?
  intro j
  by_cases hj : j < (sh_f 36).length
  · rw [xg_f_at (σ := xm_tok σ t) hj rfl]
    by_cases e : j = 10
    · subst e
      rw [List.getElem?_set_self (by simp [xw_f, sh_f])]
      simp [xw_v, xm_tok, sh_f]
    · rw [List.getElem?_set_ne (Ne.symm e), xg_f_at hj rfl]
      have hne : (sh_f 36).getD j 0 ≠ 1 := by
        have hj' : j < 33 := hj
        revert e
        revert j
        decide
      simp only [xw_v, xm_tok, if_neg hne]
  · rw [List.getElem?_eq_none (by simp [xw_f]; omega), List.getElem?_eq_none (by simp [xw_f]; omega)]
theorem X_putL {idx : Nat} {v : Int64} (pd : Nat) (hd : decode M.2.1 pc = .ok (.putfield idx, 3)) (hf : xg_fp M.1.cls idx 5 10 .long) (hn : pc + 3 = pd) (kk : xg_X xs d M pd lv st (xm_tok σ v) Q) : xg_X xs d M pc lv (.long v :: .ref 36 :: st) σ Q := by
  intro p l e R s m args below meth c cells slots ad G cA Z hT hR H locs ls hP hS hl
  subst hn
  obtain ⟨C, T, N, ty0, hc, hk, hin, hlk, hty, hnm, hfin, hpt⟩ := hf
  have hE : xw_e ad cA (xm_tok σ v) 36 = .inr (5, (xw_f ad σ 36).set 10 (xv ad (.long v))) := by
    show _ = Sum.inr (5, (xw_f ad σ 36).set 10 (Value.long v))
    rw [xw_tok_f]; unfold xw_e; rw [if_pos (by decide)]; rfl
  refine va_put hT.1 hT.2.1 hT.2.2.2.2.1 hin ty0 hty hnm hT.2.2.2.1 hT.2.2.2.2.2.2.1 hP (xg_D hT.2.2.2.2.2.2.2.1) hS 36 (xg_ob_cell (by decide) (by decide) (by decide)) hc 10 hk (hT.2.2.2.2.1 _ hlk) (fun _ h => h) hfin hpt rfl rfl (by simp [xw_f, sh_f]) hd (fun H1 locs1 hP1 hD1 hS1 => ?_)
  rw [← hE, xw_set (σ := σ) (σ' := xm_tok σ v) (by decide) (fun b hb => xw_e_same (fun _ => rfl) (Or.inr hb))] at hP1
  exact kk p l e R s m args below meth c cells slots ad G cA Z hT hR H1 locs1 ls hP1 hS1 hl
/-- an array of ints (t 0) or booleans (t 1) of n places -/
def xg_ar (a t n : Nat) : Bool := Nat.ble (a + 1) 52 && (Nat.beq (sh_cl a) 9 && (Nat.beq (sh_t a) t && Nat.beq (sh_n a) n))
theorem xg_ar_of {a t n : Nat} (h : xg_ar a t n = true) : a < 52 ∧ sh_cl a = 9 ∧ sh_t a = t ∧ sh_n a = n := by
  simp only [xg_ar, Bool.and_eq_true] at h
  exact ⟨Nat.le_of_ble_eq_true h.1, Nat.eq_of_beq_eq_true h.2.1, Nat.eq_of_beq_eq_true h.2.2.1, Nat.eq_of_beq_eq_true h.2.2.2⟩
theorem xg_ar_cell {ad : Nat → Nat} {cA : Nat → ClassId} {σ : xm_M} {a t n : Nat} (h1 : a < 52) (h2 : sh_cl a = 9) (h3 : sh_t a = t) (h4 : sh_n a = n) (ht : t ≠ 2) : (xw_w ad cA σ)[a]? = some (ad a, .inl (cA t, n, .inl (σ.1 a))) := by
  rw [xw_at h1]
  unfold xw_e
  rw [if_neg (by omega), if_neg (by omega), h3, h4]
theorem xg_ar_cellq {ad : Nat → Nat} {cA : Nat → ClassId} {σ : xm_M} {a n : Nat} (h1 : a < 52) (h2 : sh_cl a = 9) (h3 : sh_t a = 2) (h4 : sh_n a = n) : (xw_w ad cA σ)[a]? = some (ad a, .inl (cA 2, n, .inr (.inr (.inr (.inr (fun k => some (ad (σ.1 a k).toNatClampNeg))))))) := by
  rw [xw_at h1]
  unfold xw_e
  rw [if_neg (by omega), if_pos h3, h4]
theorem xm_set_row {σ : xm_M} {a k : Nat} {v : Int32} : (xm_set σ a k v).1 a = upd (σ.1 a) k v := by
  funext j
  simp [xm_set, upd]
theorem X_iald {a : Nat} {i : Int32} (n : Nat) (pd : Nat) (hd : decode M.2.1 pc = .ok (.iaload, 1)) (ha : xg_ar a 0 n = true) (hn : pc + 1 = pd) (hi : vp_in i n) (kk : xg_X xs d M pd lv (.int (σ.1 a i.toNatClampNeg) :: st) σ Q) : xg_X xs d M pc lv (.int i :: .ref a :: st) σ Q := by
  intro p l e R s m args below meth c cells slots ad G cA Z hT hR H locs ls hP hS hl
  subst hn
  obtain ⟨h1, h2, h3, h4⟩ := xg_ar_of ha
  exact va_iald hT.1 hT.2.1 hT.2.2.2.2.2.2.1 hP a 0 (xg_ar_cell h1 h2 h3 h4 (by decide)) rfl hi hd (kk p l e R s m args below meth c cells slots ad G cA Z hT hR H locs ls hP hS hl)
theorem X_iast {a : Nat} {i v : Int32} (n : Nat) (pd : Nat) (hd : decode M.2.1 pc = .ok (.iastore, 1)) (ha : xg_ar a 0 n = true) (hn : pc + 1 = pd) (hi : vp_in i n) (kk : xg_X xs d M pd lv st (xm_set σ a i.toNatClampNeg v) Q) : xg_X xs d M pc lv (.int v :: .int i :: .ref a :: st) σ Q := by
  intro p l e R s m args below meth c cells slots ad G cA Z hT hR H locs ls hP hS hl
  subst hn
  obtain ⟨h1, h2, h3, h4⟩ := xg_ar_of ha
  refine va_iast hT.1 hT.2.1 hT.2.2.2.2.2.2.1 hP (xg_D hT.2.2.2.2.2.2.2.1) hS a 0 (xg_ar_cell h1 h2 h3 h4 (by decide)) rfl hi hd (fun H1 locs1 hP1 hD1 hS1 => ?_)
  have hE : xw_e ad cA (xm_set σ a i.toNatClampNeg v) a = .inl (cA 0, n, .inl (upd (σ.1 a) i.toNatClampNeg v)) := by
    unfold xw_e; rw [if_neg (by omega), if_neg (by omega), h3, h4, xm_set_row]
  rw [← hE, xw_set h1 (fun b hb => xm_set_e hb)] at hP1
  exact kk p l e R s m args below meth c cells slots ad G cA Z hT hR H1 locs1 ls hP1 hS1 hl
theorem X_zald {a : Nat} {i : Int32} (n : Nat) (pd : Nat) (hd : decode M.2.1 pc = .ok (.baload, 1)) (ha : xg_ar a 1 n = true) (hn : pc + 1 = pd) (hi : vp_in i n) (kk : xg_X xs d M pd lv (.int (σ.1 a i.toNatClampNeg) :: st) σ Q) : xg_X xs d M pc lv (.int i :: .ref a :: st) σ Q := by
  intro p l e R s m args below meth c cells slots ad G cA Z hT hR H locs ls hP hS hl
  subst hn
  obtain ⟨h1, h2, h3, h4⟩ := xg_ar_of ha
  exact va_zald hT.1 hT.2.1 hT.2.2.2.2.2.2.1 hP a 1 (xg_ar_cell h1 h2 h3 h4 (by decide)) rfl hi hd (kk p l e R s m args below meth c cells slots ad G cA Z hT hR H locs ls hP hS hl)
theorem X_zast {a : Nat} {i v : Int32} (n : Nat) (pd : Nat) (hd : decode M.2.1 pc = .ok (.bastore, 1)) (ha : xg_ar a 1 n = true) (hv : vp_nar .boolean v = v) (hn : pc + 1 = pd) (hi : vp_in i n) (kk : xg_X xs d M pd lv st (xm_set σ a i.toNatClampNeg v) Q) : xg_X xs d M pc lv (.int v :: .int i :: .ref a :: st) σ Q := by
  intro p l e R s m args below meth c cells slots ad G cA Z hT hR H locs ls hP hS hl
  subst hn
  obtain ⟨h1, h2, h3, h4⟩ := xg_ar_of ha
  refine va_zast hT.1 hT.2.1 hT.2.2.2.2.2.2.1 hP (xg_D hT.2.2.2.2.2.2.2.1) hS a 1 (xg_ar_cell h1 h2 h3 h4 (by decide)) rfl hi hd (fun H1 locs1 hP1 hD1 hS1 => ?_)
  have hE : xw_e ad cA (xm_set σ a i.toNatClampNeg v) a = .inl (cA 1, n, .inl (upd (σ.1 a) i.toNatClampNeg (vp_nar .boolean v))) := by
    unfold xw_e; rw [if_neg (by omega), if_neg (by omega), h3, h4, xm_set_row, hv]
  rw [← hE, xw_set h1 (fun b hb => xm_set_e hb)] at hP1
  exact kk p l e R s m args below meth c cells slots ad G cA Z hT hR H1 locs1 ls hP1 hS1 hl
theorem X_aald {a : Nat} {i : Int32} (n : Nat) (pd : Nat) (hd : decode M.2.1 pc = .ok (.aaload, 1)) (ha : xg_ar a 2 n = true) (hn : pc + 1 = pd) (hi : vp_in i n) (kk : xg_X xs d M pd lv (.ref (σ.1 a i.toNatClampNeg).toNatClampNeg :: st) σ Q) : xg_X xs d M pc lv (.int i :: .ref a :: st) σ Q := by
  intro p l e R s m args below meth c cells slots ad G cA Z hT hR H locs ls hP hS hl
  subst hn
  obtain ⟨h1, h2, h3, h4⟩ := xg_ar_of ha
  exact va_aldq (C := RX1) hT.1 hT.2.1 hT.2.2.2.2.2.2.1 hP a 2 (xg_ar_cellq h1 h2 h3 h4) rfl hi hd (kk p l e R s m args below meth c cells slots ad G cA Z hT hR H locs ls hP hS hl)
theorem X_aast {a b : Nat} {i : Int32} (n : Nat) (pd : Nat) (hd : decode M.2.1 pc = .ok (.aastore, 1)) (ha : xg_ar a 2 n = true) (hb : b < 52 ∧ sh_cl b = 1) (hn : pc + 1 = pd) (hi : vp_in i n) (kk : xg_X xs d M pd lv st (xm_set σ a i.toNatClampNeg (nI b)) Q) : xg_X xs d M pc lv (.ref b :: .int i :: .ref a :: st) σ Q := by
  intro p l e R s m args below meth c cells slots ad G cA Z hT hR H locs ls hP hS hl
  subst hn
  obtain ⟨h1, h2, h3, h4⟩ := xg_ar_of ha
  refine va_astq (r := (RX1, TX1, 6)) hT.1 hT.2.1 hT.2.2.2.2.2.2.1 hP (xg_D hT.2.2.2.2.2.2.2.1) hS a 2 b 1 (xg_ar_cellq h1 h2 h3 h4) rfl (xg_ob_cell hb.1 hb.2 (by decide)) rfl hi hd (fun H1 locs1 hP1 hD1 hS1 => ?_)
  have hE : xw_e ad cA (xm_set σ a i.toNatClampNeg (nI b)) a = .inl (cA 2, n, .inr (.inr (.inr (.inr (va_up (fun k => some (ad (σ.1 a k).toNatClampNeg)) i.toNatClampNeg (some (ad b))))))) := by
    unfold xw_e; rw [if_neg (by omega), if_pos h3, h4]
    congr 7
    funext j
    simp only [xm_set, va_up, if_true]
    by_cases e : j = i.toNatClampNeg
    · rw [if_pos e, if_pos e, nI_clamp (by omega)]
    · rw [if_neg e, if_neg e]
  rw [← hE, xw_set h1 (fun b hb => xm_set_e hb)] at hP1
  exact kk p l e R s m args below meth c cells slots ad G cA Z hT hR H1 locs1 ls hP1 hS1 hl
theorem X_alen {a t n : Nat} (v : Int32) (pd : Nat) (hd : decode M.2.1 pc = .ok (.arraylength, 1)) (ha : xg_ar a t n = true) (ht : t = 0) (hv : Int32.ofNat n = v) (hn : pc + 1 = pd) (kk : xg_X xs d M pd lv (.int v :: st) σ Q) : xg_X xs d M pc lv (.ref a :: st) σ Q := by
  intro p l e R s m args below meth c cells slots ad G cA Z hT hR H locs ls hP hS hl
  subst hn; subst ht
  obtain ⟨h1, h2, h3, h4⟩ := xg_ar_of ha
  exact va_alen hT.1 hT.2.1 hT.2.2.2.2.2.2.1 hP a 0 (xg_ar_cell h1 h2 h3 h4 (by decide)) rfl hv hd (kk p l e R s m args below meth c cells slots ad G cA Z hT hR H locs ls hP hS hl)
/-! tables and words -/
theorem X_gsA {idx : Nat} (pd : Nat) (hd : decode M.2.1 pc = .ok (.getstatic idx, 3)) (hw : Cond.fieldLink M.1.cls idx RX4 "KIND_ABOVE" "[I" ∈ xg_tb) (hn : pc + 3 = pd) (kk : xg_X xs d M pd lv (.ref 60 :: st) σ Q) : xg_X xs d M pc lv st σ Q := by
  intro p l e R s m args below meth c cells slots ad G cA Z hT hR H locs ls hP hS hl
  subst hn
  exact va_gets hT.1 hT.2.1 hT.2.2.2.2.2.2.2.2.1.1 hS hT.2.2.2.1 (hT.2.2.2.2.1 _ hw) (fun _ h => h) hd (kk p l e R s m args below meth c cells slots ad G cA Z hT hR H locs ls hP hS hl)
theorem X_gsN {idx : Nat} (pd : Nat) (hd : decode M.2.1 pc = .ok (.getstatic idx, 3)) (hw : Cond.fieldLink M.1.cls idx RX3 "NUMBERS" "[I" ∈ xg_tb) (hn : pc + 3 = pd) (kk : xg_X xs d M pd lv (.ref 61 :: st) σ Q) : xg_X xs d M pc lv st σ Q := by
  intro p l e R s m args below meth c cells slots ad G cA Z hT hR H locs ls hP hS hl
  subst hn
  exact va_gets hT.1 hT.2.1 hT.2.2.2.2.2.2.2.2.1.2.2.1 hS hT.2.2.2.1 (hT.2.2.2.2.1 _ hw) (fun _ h => h) hd (kk p l e R s m args below meth c cells slots ad G cA Z hT hR H locs ls hP hS hl)
theorem X_gsC {idx : Nat} (pd : Nat) (hd : decode M.2.1 pc = .ok (.getstatic idx, 3)) (hw : Cond.fieldLink M.1.cls idx RJ0 "COMPACT_STRINGS" "Z" ∈ xg_tb) (hn : pc + 3 = pd) (kk : xg_X xs d M pd lv (.int 1 :: st) σ Q) : xg_X xs d M pc lv st σ Q := by
  intro p l e R s m args below meth c cells slots ad G cA Z hT hR H locs ls hP hS hl
  subst hn
  exact va_gets hT.1 hT.2.1 hT.2.2.2.2.2.2.2.2.1.2.2.2.2.1 hS hT.2.2.2.1 (hT.2.2.2.2.1 _ hw) (fun _ h => h) hd (kk p l e R s m args below meth c cells slots ad G cA Z hT hR H locs ls hP hS hl)
theorem X_ialdA {i : Int32} (pd : Nat) (hd : decode M.2.1 pc = .ok (.iaload, 1)) (hn : pc + 1 = pd) (hi : vp_in i 6) (kk : xg_X xs d M pd lv (.int (xk_above.getD i.toNatClampNeg 0) :: st) σ Q) : xg_X xs d M pc lv (.int i :: .ref 60 :: st) σ Q := by
  intro p l e R s m args below meth c cells slots ad G cA Z hT hR H locs ls hP hS hl
  subst hn
  exact va_ti hT.1 hT.2.1 hT.2.2.2.2.2.2.2.2.1.2.1 hS hi rfl hd (kk p l e R s m args below meth c cells slots ad G cA Z hT hR H locs ls hP hS hl)
theorem X_ialdN {i : Int32} (pd : Nat) (hd : decode M.2.1 pc = .ok (.iaload, 1)) (hn : pc + 1 = pd) (hi : vp_in i 11) (kk : xg_X xs d M pd lv (.int (xk_nums.getD i.toNatClampNeg 0) :: st) σ Q) : xg_X xs d M pc lv (.int i :: .ref 61 :: st) σ Q := by
  intro p l e R s m args below meth c cells slots ad G cA Z hT hR H locs ls hP hS hl
  subst hn
  exact va_ti hT.1 hT.2.1 hT.2.2.2.2.2.2.2.2.1.2.2.2.1 hS hi rfl hd (kk p l e R s m args below meth c cells slots ad G cA Z hT hR H locs ls hP hS hl)
theorem X_alenA (pd : Nat) (hd : decode M.2.1 pc = .ok (.arraylength, 1)) (hn : pc + 1 = pd) (kk : xg_X xs d M pd lv (.int 6 :: st) σ Q) : xg_X xs d M pc lv (.ref 60 :: st) σ Q := by
  intro p l e R s m args below meth c cells slots ad G cA Z hT hR H locs ls hP hS hl
  subst hn
  exact va_tlen hT.1 hT.2.1 hT.2.2.2.2.2.2.2.2.1.2.1 hS (by decide) hd (kk p l e R s m args below meth c cells slots ad G cA Z hT hR H locs ls hP hS hl)
/-- a word's bytes -/
theorem X_getB {idx : Nat} (i : Nat) (pd : Nat) (hd : decode M.2.1 pc = .ok (.getfield idx, 3)) (hi : i < 11) (hw : Cond.fieldLink M.1.cls idx RJ0 "value" "[B" ∈ xg_tb) (hn : pc + 3 = pd) (kk : xg_X xs d M pd lv (.ref (90 + i) :: st) σ Q) : xg_X xs d M pc lv (.ref (70 + i) :: st) σ Q := by
  intro p l e R s m args below meth c cells slots ad G cA Z hT hR H locs ls hP hS hl
  subst hn
  exact vk_getf hT.1 hT.2.1 (hT.2.2.2.2.2.2.2.2.1.2.2.2.2.2.1 i hi).2.2.1 hS hT.2.2.2.1 (hT.2.2.2.2.1 _ hw) (fun _ h => h) hd (kk p l e R s m args below meth c cells slots ad G cA Z hT hR H locs ls hP hS hl)
theorem X_getC {idx : Nat} (i : Nat) (pd : Nat) (hd : decode M.2.1 pc = .ok (.getfield idx, 3)) (hi : i < 11) (hw : Cond.fieldLink M.1.cls idx RJ0 "coder" "B" ∈ xg_tb) (hn : pc + 3 = pd) (kk : xg_X xs d M pd lv (.int 0 :: st) σ Q) : xg_X xs d M pc lv (.ref (70 + i) :: st) σ Q := by
  intro p l e R s m args below meth c cells slots ad G cA Z hT hR H locs ls hP hS hl
  subst hn
  exact vk_getf hT.1 hT.2.1 (hT.2.2.2.2.2.2.2.2.1.2.2.2.2.2.1 i hi).2.1 hS hT.2.2.2.1 (hT.2.2.2.2.1 _ hw) (fun _ h => h) hd (kk p l e R s m args below meth c cells slots ad G cA Z hT hR H locs ls hP hS hl)
theorem X_alenB (i : Nat) (pd : Nat) (hd : decode M.2.1 pc = .ok (.arraylength, 1)) (hi : i < 11) (hn : pc + 1 = pd) (kk : xg_X xs d M pd lv (.int (nI (xk_lens.getD i 0)) :: st) σ Q) : xg_X xs d M pc lv (.ref (90 + i) :: st) σ Q := by
  intro p l e R s m args below meth c cells slots ad G cA Z hT hR H locs ls hP hS hl
  subst hn
  exact va_tlen hT.1 hT.2.1 (hT.2.2.2.2.2.2.2.2.1.2.2.2.2.2.1 i hi).2.2.2 hS rfl hd (kk p l e R s m args below meth c cells slots ad G cA Z hT hR H locs ls hP hS hl)
theorem X_baldB {j : Int32} (i : Nat) (pd : Nat) (hd : decode M.2.1 pc = .ok (.baload, 1)) (hi : i < 11) (hn : pc + 1 = pd) (hj : vp_in j (xk_lens.getD i 0)) (kk : xg_X xs d M pd lv (.int ((xk_bytes.getD i []).getD j.toNatClampNeg 0) :: st) σ Q) : xg_X xs d M pc lv (.int j :: .ref (90 + i) :: st) σ Q := by
  intro p l e R s m args below meth c cells slots ad G cA Z hT hR H locs ls hP hS hl
  subst hn
  exact va_tb hT.1 hT.2.1 (hT.2.2.2.2.2.2.2.2.1.2.2.2.2.2.1 i hi).2.2.2 hS hj rfl hd (kk p l e R s m args below meth c cells slots ad G cA Z hT hR H locs ls hP hS hl)
/-! the script -/
theorem X_slen {L : Nat} {f : Nat → Int32} (pd : Nat) (hd : decode M.2.1 pc = .ok (.arraylength, 1)) (hn : pc + 1 = pd) (kk : xg_X (some (L, f)) d M pd lv (.int (nI L) :: st) σ Q) : xg_X (some (L, f)) d M pc lv (.ref 110 :: st) σ Q := by
  intro p l e R s m args below meth c cells slots ad G cA Z hT hR H locs ls hP hS hl
  subst hn
  obtain ⟨h1, h2, h3⟩ := hT.2.2.2.2.2.2.2.2.2.2
  exact va_slen hT.1 hT.2.1 h1 h2 h3 hS hd (kk p l e R s m args below meth c cells slots ad G cA Z hT hR H locs ls hP hS hl)
theorem X_sald {L : Nat} {f : Nat → Int32} {i : Int32} (pd : Nat) (hd : decode M.2.1 pc = .ok (.iaload, 1)) (hn : pc + 1 = pd) (hi : vp_in i L) (kk : xg_X (some (L, f)) d M pd lv (.int (f i.toNatClampNeg) :: st) σ Q) : xg_X (some (L, f)) d M pc lv (.int i :: .ref 110 :: st) σ Q := by
  intro p l e R s m args below meth c cells slots ad G cA Z hT hR H locs ls hP hS hl
  subst hn
  obtain ⟨h1, h2, h3⟩ := hT.2.2.2.2.2.2.2.2.2.2
  exact va_sld hT.1 hT.2.1 h1 h2 h3 hS hi hd (kk p l e R s m args below meth c cells slots ad G cA Z hT hR H locs ls hP hS hl)
end HEAP
section CALLS
variable {xs : Option (Nat × (Nat → Int32))} {d : Nat} {M : xg_Y} {pc : Nat} {lv : List (Nat × Value)} {st : List Value} {σ : xm_M} {Q : Option Value → xm_M → Prop}
def xg_zk (z : xg_Y) (n : Nat) : Prop := z.1.cls ≠ "java/lang/invoke/MethodHandle" ∧ z.1.cls ≠ "java/lang/invoke/VarHandle" ∧ (parseMethodDescriptor z.1.desc).map (fun d => d.parameters.length) = some n ∧ z.2.2.1 ≤ 40
def xg_pu (r : Option Value) (st : List Value) : List Value := match r with
  | none => st
  | some v => v :: st
theorem xg_blind {As : List Value} {ad : Nat → Nat} {G : va_G} {cA : Nat → ClassId} {σ : xm_M} : FrameBlind (va_Pc (As.map (xv ad)) (xg_At ad G cA σ)) := by
  intro a U g mk h
  obtain ⟨h0, hP, hK, hap, hKK, hN⟩ := h
  exact ⟨h0, hP, va_K.moved (u := U) (U := U.calling g mk a) (Vm.Alike.refl U.vm) hK, hap, xg_K.moved (u := U) (U := U.calling g mk a) (Vm.Alike.refl U.vm) hKK, xg_N.same (u := U) (U := U.calling g mk a) rfl hN⟩
theorem xg_good {z : xg_Y} (h : xg_cd z ∈ xg_tb) : GoodIn xg_tb (xg_ws z) := fun w hw => by
  have h1 : w ∈ xg_tb := by
    rcases List.mem_cons.mp hw with rfl | h2
    · exact h
    · exact h2
  exact ⟨h1, good_of_word (xg_tb_good w h1)⟩
theorem xg_pre {xs : Option (Nat × (Nat → Int32))} {d : Nat} {M : xg_Y} {p : Program} {l : Launch} {e : Env} {R : Room} {s : State} {m : MethodId} {args : Array Value} {below : List Frame} {meth : Method} {c : Code} {cells slots : Nat} {ad : Nat → Nat} {G : va_G} {cA : Nat → ClassId} {σ : xm_M} {H : Heap} {locs : List Loc} {As : List Value}
    (hT : xg_T xs d M p l e R s m args below meth c cells slots ad G cA) (hP : va_P G vwCl (xw_w ad cA σ) H) (hS : va_S (xg_A ad) s.heap H locs) : ∀ U : State, U.heap = H → s.WarmedH U.vm → va_Pc (As.map (xv ad)) (xg_At ad G cA σ) (As.map (xv ad)).toArray U := by
  intro U hU hW
  refine ⟨rfl, by rw [hU]; exact hP, va_K.moved hW.alike hT.2.2.2.2.2.2.1, hT.2.2.2.2.2.2.2.1, ?_, xg_N.warm hW hT.2.2.2.2.2.2.2.2.2.1⟩
  rw [hU]
  exact (hT.2.2.2.2.2.2.2.2.1.kept hS.2.1).moved hW.alike
theorem xg_run {p : Program} {l : Launch} {e : Env} {R : Room} {s : State} {m : MethodId} {args : Array Value} {below : List Frame} {meth : Method} {c : Code} {cells slots : Nat} {ad : Nat → Nat} {G : va_G} {cA : Nat → ClassId} {H : Heap} {locs : List Loc} {ls : Array Slot} {pd : Nat} {stk st : List Value} {Z : State → Prop} {a : Array Value} {Q2 : Option Value → xm_M → Prop}
    (hT : xg_T xs (d + 1) M p l e R s m args below meth c cells slots ad G cA) (hR : xg_R M p l e R s m args below meth c cells slots ad G cA Q Z) (hS : va_S (xg_A ad) s.heap H locs) (hl : lv_has ls M.2.2.1 (lv.map (fun q => (q.1, xv ad q.2)))) (hn : pc + 3 = pd)
    (hr : va_Run p l e R s m args below meth c H locs cells slots 0 0 (F0 m pc ls stk) (st.map (xv ad)) (xg_Q ad G cA Q2 a) (xg_A ad)) (hq : ∀ r σ, Q2 r σ → xg_X xs (d + 1) M pd lv (xg_pu r st) σ Q) : W p l e R s m args below meth c H locs cells slots Z (F0 m pc ls stk) := by
  subst hn
  intro T hT1 X1
  obtain ⟨v, st₀, t, T', L, h0, X2, hL, e1, e2, ⟨⟨r, σ', hv, hq2, hP2⟩, hz, hk⟩, stp⟩ := hr T hT1 X1
  rw [h0] at hz hk
  have hv' : v = r.map (xv ad) := by cases hv; rfl
  have hS2 : va_S (xg_A ad) s.heap T'.heap (locs ++ L) := ⟨Nat.le_trans hS.1 (by rw [e1]; exact hz), fun q h1 h2 => by rw [e1, hk q (Nat.lt_of_lt_of_le h1 hS.1) h2]; exact hS.2.1 q h1 h2, fun q hq => by
      rcases List.mem_append.mp hq with h | h
      · exact hS.2.2 q h
      · exact hL q h⟩
  obtain ⟨t2, a1, b1⟩ := hq r σ' hq2 p l e R s m args below meth c cells slots ad G cA Z hT hR T'.heap (locs ++ L) ls (by rw [e1]; exact hP2) hS2 hl T' rfl X2
  refine ⟨t2, stp t2 ?_, b1⟩
  have hst : v.toList ++ st.map (xv ad) = (xg_pu r st).map (xv ad) := by rw [hv']; cases r <;> rfl
  have a2 : Steps p.tables e below (T'.setTop (F0 m (pc + 3) ls (v.toList ++ st.map (xv ad)))) t2 := by rw [hst]; exact a1
  exact a2
theorem xg_sum {ad : Nat → Nat} {st : List Value} {m : MethodId} {pc : Nat} {ls : Array Slot} {stk : List Value} (h : Nat.ble (st.map Value.category).sum 8 = true) : 2 * (F0 m pc ls stk).monitorRoom + ((st.map (xv ad)).map fun v => v.category).sum ≤ 8 := by
  refine lv_room (st := st.map (xv ad)) ?_
  rw [List.map_map, show ((fun v => Value.category v) ∘ xv ad) = Value.category from funext (fun v => xv_cat ad v)]
  exact Nat.le_of_ble_eq_true h
theorem xg_room {R : Room} {z : xg_Y} {n : Nat} (hz : xg_zk z n) (h : d + 1 + 1 ≤ R.frames ∧ 60 * (d + 1 + 1) ≤ R.locals) : (xg_rm d).frames + 1 ≤ R.frames ∧ 8 + (z.2.2.1 + 11) + (xg_rm d).locals ≤ R.locals := by
  have := hz.2.2.2
  exact ⟨h.1, by show 8 + (z.2.2.1 + 11) + 60 * (d + 1) ≤ R.locals; omega⟩
/-- a call of a static method -/
theorem X_callS {z : xg_Y} {idx n : Nat} (As : List Value) {stk : List Value} (pd : Nat) (hd : decode M.2.1 pc = .ok (.invokestatic idx, 3)) (hw : ∀ w ∈ [Cond.methodLink M.1.cls idx z.1, .static z.1, .initialized z.1.cls, xg_cd z], w ∈ xg_tb) (hz : xg_zk z n) (hln : As.length = n) (hstk : stk = As.reverse ++ st) (hsum : Nat.ble (st.map Value.category).sum 8 = true) (hn : pc + 3 = pd)
    (hc : xg_C d z As σ (fun r σ' => xg_X xs (d + 1) M pd lv (xg_pu r st) σ' Q)) : xg_X xs (d + 1) M pc lv stk σ Q := by
  intro p l e R s m args below meth c cells slots ad G cA Z hT hR H locs ls hP hS hl
  subst hstk
  have hts := hT.2.2.2.2.1
  have cw := va_cwS (R := R) (own := M.1.cls) (index := idx) (y := z.1) (bytes := z.2.1) (maxL := z.2.2.1) (ret := z.2.2.2) (ws := xg_ws z) (ws' := xg_tb) (rm := xg_rm d) n hts (fun w h => by
    unfold va_wsS at h
    rcases List.mem_append.mp h with h | h
    · have h1 : w ∈ xg_tb := hw w (List.mem_append_left [xg_cd z] h)
      exact ⟨h1, good_of_word (xg_tb_good w h1)⟩
    · exact xg_good (hw _ (by simp)) w h) rfl rfl rfl ⟨hz.1, hz.2.1, hz.2.2.1⟩ (xg_room hz ⟨hT.2.2.2.2.2.1.1, hT.2.2.2.2.2.1.2.1⟩)
  refine xg_run hT hR hS hl hn (va_runS (As := As.map (xv ad)) (rest := st.map (xv ad)) (g := F0 m pc ls _) ⟨hT.1, hT.2.1, hT.2.2.1, hT.2.2.2.1, hts⟩ (hc l ad G cA) cw ⟨xg_blind, xg_pre hT hP hS⟩ rfl (by simp [hln]) hl.1 (by simp) (xg_sum hsum) hd ⟨hT.2.2.2.2.2.1.2.2.1, hT.2.2.2.2.2.1.2.2.2⟩) (fun r σ' h => h)
/-- a call of a nest mate's private static method -/
theorem X_callN {z : xg_Y} {idx n : Nat} (As : List Value) {stk : List Value} (pd : Nat) (hd : decode M.2.1 pc = .ok (.invokestatic idx, 3)) (hnw : Cond.methodLinkNest M.1.cls idx z.1 RX4 ∈ xk_nest) (hw : ∀ w ∈ [Cond.static z.1, .initialized z.1.cls, xg_cd z], w ∈ xg_tb) (hz : xg_zk z n) (hln : As.length = n) (hstk : stk = As.reverse ++ st) (hsum : Nat.ble (st.map Value.category).sum 8 = true) (hn : pc + 3 = pd)
    (hc : xg_C d z As σ (fun r σ' => xg_X xs (d + 1) M pd lv (xg_pu r st) σ' Q)) : xg_X xs (d + 1) M pc lv stk σ Q := by
  intro p l e R s m args below meth c cells slots ad G cA Z hT hR H locs ls hP hS hl
  subst hstk
  have hts := hT.2.2.2.2.1
  have cw := va_cnB (R := R) (own := M.1.cls) (index := idx) (y := z.1) (host := RX4) (bytes := z.2.1) (maxL := z.2.2.1) (ret := z.2.2.2) (ws := xg_ws z) (ws' := xg_tb) (rm := xg_rm d) n hts (xg_good (hw _ (by simp))) rfl rfl rfl (hT.2.2.2.2.2.2.2.2.2.1.1 _ hnw) (hts _ (hw _ (by simp))) ⟨hz.1, hz.2.1, hz.2.2.1⟩ (xg_room hz ⟨hT.2.2.2.2.2.1.1, hT.2.2.2.2.2.1.2.1⟩)
  refine xg_run hT hR hS hl hn (va_runSN (As := As.map (xv ad)) (rest := st.map (xv ad)) (g := F0 m pc ls _) ⟨hT.1, hT.2.1, hT.2.2.1, hT.2.2.2.1, hts⟩ (hc l ad G cA) ⟨cw, hts _ (hw _ (by simp)), trivial⟩ ⟨xg_blind, xg_pre hT hP hS⟩ rfl (by simp [hln]) hl.1 (by simp) (xg_sum hsum) hd ⟨hT.2.2.2.2.2.1.2.2.1, hT.2.2.2.2.2.1.2.2.2⟩) (fun r σ' h => h)
theorem xg_cwV {R : Room} {s : State} {args : Array Value} {z : xg_Y} {idx n : Nat} (hts : ∀ w ∈ xg_tb, w.before args s = true) (hw : ∀ w ∈ [Cond.methodLink M.1.cls idx z.1, .instanceMethod z.1, .selects z.1.cls z.1 z.1, .initialized z.1.cls, xg_cd z], w ∈ xg_tb) (hz : xg_zk z n) (hR : (xg_rm d).frames + 1 ≤ R.frames ∧ 8 + (z.2.2.1 + 11) + (xg_rm d).locals ≤ R.locals) :
    CallW R s args M.1.cls z.1.cls idx z.1 z.2.1 z.2.2.1 z.2.2.2 (xg_ws z) (xg_rm d) 0 0 n :=
  cwV (ws' := xg_tb) n hts (fun w h => by
    unfold wsV at h
    rcases List.mem_append.mp h with h | h
    · have h1 : w ∈ xg_tb := hw w (List.mem_append_left [xg_cd z] h)
      exact ⟨h1, good_of_word (xg_tb_good w h1)⟩
    · exact xg_good (hw _ (by simp)) w h) rfl rfl rfl ⟨rfl, hz.1, hz.2.1, hz.2.2.1⟩ hR
def xg_oc (a ci : Nat) : Bool := Nat.ble (a + 1) 52 && (Nat.beq (sh_cl a) ci && Nat.ble (ci + 1) 9)
/-- a call of a method of an object of the world -/
theorem X_callV {z : xg_Y} {idx n ci a : Nat} {r : vw_C} (As : List Value) {stk : List Value} (pd : Nat) (hd : decode M.2.1 pc = .ok (.invokevirtual idx, 3)) (hw : ∀ w ∈ [Cond.methodLink M.1.cls idx z.1, .instanceMethod z.1, .selects z.1.cls z.1 z.1, .initialized z.1.cls, xg_cd z], w ∈ xg_tb) (hz : xg_zk z n) (hcl : vwCl[ci]? = some r ∧ r.1 = z.1.cls) (ho : xg_oc a ci = true) (hln : As.length = n) (hstk : stk = As.reverse ++ .ref a :: st) (hsum : Nat.ble (st.map Value.category).sum 8 = true) (hn : pc + 3 = pd)
    (hc : xg_C d z (.ref a :: As) σ (fun r σ' => xg_X xs (d + 1) M pd lv (xg_pu r st) σ' Q)) : xg_X xs (d + 1) M pc lv stk σ Q := by
  intro p l e R s m args below meth c cells slots ad G cA Z hT hR H locs ls hP hS hl
  subst hstk
  have hts := hT.2.2.2.2.1
  simp only [xg_oc, Bool.and_eq_true] at ho
  have hcell := va_recv hT.2.2.2.2.2.2.1 hP hcl.1 (xg_ob_cell (Nat.le_of_ble_eq_true ho.1) (Nat.eq_of_beq_eq_true ho.2.1) (Nat.le_of_ble_eq_true ho.2.2))
  rw [hcl.2] at hcell
  refine xg_run hT hR hS hl hn (va_runV (b := ad a) (As := As.map (xv ad)) (rest := st.map (xv ad)) (g := F0 m pc ls _) ⟨hT.1, hT.2.1, hT.2.2.1, hT.2.2.2.1, hts⟩ (hc l ad G cA) (xg_cwV hts hw hz (xg_room hz ⟨hT.2.2.2.2.2.1.1, hT.2.2.2.2.2.1.2.1⟩)) ⟨xg_blind, hcell, xg_pre (As := .ref a :: As) hT hP hS⟩ rfl (by simp [hln]) hl.1 (by simp [xv]) (xg_sum hsum) hd ⟨hT.2.2.2.2.2.1.2.2.1, hT.2.2.2.2.2.1.2.2.2⟩) (fun r σ' h => h)
/-- a call of a method of a word -/
theorem X_callW {z : xg_Y} {idx n : Nat} (i : Nat) (As : List Value) {stk : List Value} (pd : Nat) (hd : decode M.2.1 pc = .ok (.invokevirtual idx, 3)) (hw : ∀ w ∈ [Cond.methodLink M.1.cls idx z.1, .instanceMethod z.1, .selects z.1.cls z.1 z.1, .initialized z.1.cls, xg_cd z], w ∈ xg_tb) (hz : xg_zk z n) (hcl : z.1.cls = RJ0) (hi : i < 11) (hln : As.length = n) (hstk : stk = As.reverse ++ .ref (70 + i) :: st) (hsum : Nat.ble (st.map Value.category).sum 8 = true) (hn : pc + 3 = pd)
    (hc : xg_C d z (.ref (70 + i) :: As) σ (fun r σ' => xg_X xs (d + 1) M pd lv (xg_pu r st) σ' Q)) : xg_X xs (d + 1) M pc lv stk σ Q := by
  intro p l e R s m args below meth c cells slots ad G cA Z hT hR H locs ls hP hS hl
  subst hstk
  have hts := hT.2.2.2.2.1
  have hcell := vk_recv hT.2.2.2.2.2.2.2.2.1.2.2.2.2.2 hi hS
  rw [show "java/lang/String" = z.1.cls from hcl.symm] at hcell
  refine xg_run hT hR hS hl hn (va_runV (b := ad (70 + i)) (As := As.map (xv ad)) (rest := st.map (xv ad)) (g := F0 m pc ls _) ⟨hT.1, hT.2.1, hT.2.2.1, hT.2.2.2.1, hts⟩ (hc l ad G cA) (xg_cwV hts hw hz (xg_room hz ⟨hT.2.2.2.2.2.1.1, hT.2.2.2.2.2.1.2.1⟩)) ⟨xg_blind, hcell, xg_pre (As := .ref (70 + i) :: As) hT hP hS⟩ rfl (by simp [hln]) hl.1 (by simp [xv]) (xg_sum hsum) hd ⟨hT.2.2.2.2.2.1.2.2.1, hT.2.2.2.2.2.1.2.2.2⟩) (fun r σ' h => h)
end CALLS
end
section
theorem xg_mi {w : Cond} (i : Nat) (h : lw_tbl[i]? = some w) (hg : goodWord w = true) : w ∈ xg_tb := List.mem_filter.mpr ⟨List.mem_of_getElem? h, hg⟩
abbrev mX0_reset : xg_Y := (yX0_reset, cX0_reset, 2, none)
theorem zk_X0_reset : xg_zk mX0_reset 0 := ⟨by decide +kernel, by decide +kernel, by decide +kernel, by decide +kernel⟩
theorem py_X0_reset : plainName mX0_reset.1.cls = true := by decide +kernel
abbrev mX0_copyFrom : xg_Y := (yX0_copyFrom, cX0_copyFrom, 3, none)
theorem zk_X0_copyFrom : xg_zk mX0_copyFrom 1 := ⟨by decide +kernel, by decide +kernel, by decide +kernel, by decide +kernel⟩
theorem py_X0_copyFrom : plainName mX0_copyFrom.1.cls = true := by decide +kernel
abbrev mX0_addThing : xg_Y := (yX0_addThing, cX0_addThing, 5, none)
theorem zk_X0_addThing : xg_zk mX0_addThing 4 := ⟨by decide +kernel, by decide +kernel, by decide +kernel, by decide +kernel⟩
theorem py_X0_addThing : plainName mX0_addThing.1.cls = true := by decide +kernel
abbrev mX1_clear : xg_Y := (yX1_clear, cX1_clear, 1, none)
theorem zk_X1_clear : xg_zk mX1_clear 0 := ⟨by decide +kernel, by decide +kernel, by decide +kernel, by decide +kernel⟩
theorem py_X1_clear : plainName mX1_clear.1.cls = true := by decide +kernel
abbrev mX1_copyFrom : xg_Y := (yX1_copyFrom, cX1_copyFrom, 2, none)
theorem zk_X1_copyFrom : xg_zk mX1_copyFrom 1 := ⟨by decide +kernel, by decide +kernel, by decide +kernel, by decide +kernel⟩
theorem py_X1_copyFrom : plainName mX1_copyFrom.1.cls = true := by decide +kernel
abbrev mX1_goldOf : xg_Y := (yX1_goldOf, cX1_goldOf, 2, (some .int))
theorem zk_X1_goldOf : xg_zk mX1_goldOf 1 := ⟨by decide +kernel, by decide +kernel, by decide +kernel, by decide +kernel⟩
theorem py_X1_goldOf : plainName mX1_goldOf.1.cls = true := by decide +kernel
abbrev mX1_isLost : xg_Y := (yX1_isLost, cX1_isLost, 3, (some .boolean))
theorem zk_X1_isLost : xg_zk mX1_isLost 2 := ⟨by decide +kernel, by decide +kernel, by decide +kernel, by decide +kernel⟩
theorem py_X1_isLost : plainName mX1_isLost.1.cls = true := by decide +kernel
abbrev mX1_weighs : xg_Y := (yX1_weighs, cX1_weighs, 3, (some .int))
theorem zk_X1_weighs : xg_zk mX1_weighs 2 := ⟨by decide +kernel, by decide +kernel, by decide +kernel, by decide +kernel⟩
theorem py_X1_weighs : plainName mX1_weighs.1.cls = true := by decide +kernel
abbrev mX1_loadOf : xg_Y := (yX1_loadOf, cX1_loadOf, 5, (some .int))
theorem zk_X1_loadOf : xg_zk mX1_loadOf 2 := ⟨by decide +kernel, by decide +kernel, by decide +kernel, by decide +kernel⟩
theorem py_X1_loadOf : plainName mX1_loadOf.1.cls = true := by decide +kernel
abbrev mX1_firstOverloaded : xg_Y := (yX1_firstOverloaded, cX1_firstOverloaded, 3, (some .int))
theorem zk_X1_firstOverloaded : xg_zk mX1_firstOverloaded 1 := ⟨by decide +kernel, by decide +kernel, by decide +kernel, by decide +kernel⟩
theorem py_X1_firstOverloaded : plainName mX1_firstOverloaded.1.cls = true := by decide +kernel
abbrev mX1_priceOf : xg_Y := (yX1_priceOf, cX1_priceOf, 3, (some .int))
theorem zk_X1_priceOf : xg_zk mX1_priceOf 2 := ⟨by decide +kernel, by decide +kernel, by decide +kernel, by decide +kernel⟩
theorem py_X1_priceOf : plainName mX1_priceOf.1.cls = true := by decide +kernel
abbrev mX1_prices : xg_Y := (yX1_prices, cX1_prices, 4, (some .int))
theorem zk_X1_prices : xg_zk mX1_prices 1 := ⟨by decide +kernel, by decide +kernel, by decide +kernel, by decide +kernel⟩
theorem py_X1_prices : plainName mX1_prices.1.cls = true := by decide +kernel
abbrev mX1_openGates : xg_Y := (yX1_openGates, cX1_openGates, 4, (some .int))
theorem zk_X1_openGates : xg_zk mX1_openGates 1 := ⟨by decide +kernel, by decide +kernel, by decide +kernel, by decide +kernel⟩
theorem py_X1_openGates : plainName mX1_openGates.1.cls = true := by decide +kernel
abbrev mX1_toolOf : xg_Y := (yX1_toolOf, cX1_toolOf, 8, (some .int))
theorem zk_X1_toolOf : xg_zk mX1_toolOf 3 := ⟨by decide +kernel, by decide +kernel, by decide +kernel, by decide +kernel⟩
theorem py_X1_toolOf : plainName mX1_toolOf.1.cls = true := by decide +kernel
abbrev mX1_gild : xg_Y := (yX1_gild, cX1_gild, 4, none)
theorem zk_X1_gild : xg_zk mX1_gild 2 := ⟨by decide +kernel, by decide +kernel, by decide +kernel, by decide +kernel⟩
theorem py_X1_gild : plainName mX1_gild.1.cls = true := by decide +kernel
abbrev mX1_pass : xg_Y := (yX1_pass, cX1_pass, 3, none)
theorem zk_X1_pass : xg_zk mX1_pass 1 := ⟨by decide +kernel, by decide +kernel, by decide +kernel, by decide +kernel⟩
theorem py_X1_pass : plainName mX1_pass.1.cls = true := by decide +kernel
abbrev mX2_findWay : xg_Y := (yX2_findWay, cX2_findWay, 5, (some .boolean))
theorem zk_X2_findWay : xg_zk mX2_findWay 3 := ⟨by decide +kernel, by decide +kernel, by decide +kernel, by decide +kernel⟩
theorem py_X2_findWay : plainName mX2_findWay.1.cls = true := by decide +kernel
abbrev mX2_search : xg_Y := (yX2_search, cX2_search, 13, none)
theorem zk_X2_search : xg_zk mX2_search 7 := ⟨by decide +kernel, by decide +kernel, by decide +kernel, by decide +kernel⟩
theorem py_X2_search : plainName mX2_search.1.cls = true := by decide +kernel
abbrev mX2_firstOf : xg_Y := (yX2_firstOf, cX2_firstOf, 2, (some .int))
theorem zk_X2_firstOf : xg_zk mX2_firstOf 2 := ⟨by decide +kernel, by decide +kernel, by decide +kernel, by decide +kernel⟩
theorem py_X2_firstOf : plainName mX2_firstOf.1.cls = true := by decide +kernel
abbrev mX2_rankOf : xg_Y := (yX2_rankOf, cX2_rankOf, 2, (some .int))
theorem zk_X2_rankOf : xg_zk mX2_rankOf 2 := ⟨by decide +kernel, by decide +kernel, by decide +kernel, by decide +kernel⟩
theorem py_X2_rankOf : plainName mX2_rankOf.1.cls = true := by decide +kernel
abbrev mX2_take : xg_Y := (yX2_take, cX2_take, 4, none)
theorem zk_X2_take : xg_zk mX2_take 3 := ⟨by decide +kernel, by decide +kernel, by decide +kernel, by decide +kernel⟩
theorem py_X2_take : plainName mX2_take.1.cls = true := by decide +kernel
abbrev mX3_readOnto : xg_Y := (yX3_readOnto, cX3_readOnto, 3, (some .int))
theorem zk_X3_readOnto : xg_zk mX3_readOnto 1 := ⟨by decide +kernel, by decide +kernel, by decide +kernel, by decide +kernel⟩
theorem py_X3_readOnto : plainName mX3_readOnto.1.cls = true := by decide +kernel
abbrev mX3_readClause : xg_Y := (yX3_readClause, cX3_readClause, 5, (some .boolean))
theorem zk_X3_readClause : xg_zk mX3_readClause 1 := ⟨by decide +kernel, by decide +kernel, by decide +kernel, by decide +kernel⟩
theorem py_X3_readClause : plainName mX3_readClause.1.cls = true := by decide +kernel
abbrev mX3_doClause : xg_Y := (yX3_doClause, cX3_doClause, 3, none)
theorem zk_X3_doClause : xg_zk mX3_doClause 2 := ⟨by decide +kernel, by decide +kernel, by decide +kernel, by decide +kernel⟩
theorem py_X3_doClause : plainName mX3_doClause.1.cls = true := by decide +kernel
abbrev mX3_setBears : xg_Y := (yX3_setBears, cX3_setBears, 3, none)
theorem zk_X3_setBears : xg_zk mX3_setBears 3 := ⟨by decide +kernel, by decide +kernel, by decide +kernel, by decide +kernel⟩
theorem py_X3_setBears : plainName mX3_setBears.1.cls = true := by decide +kernel
abbrev mX3_leastOf : xg_Y := (yX3_leastOf, cX3_leastOf, 2, (some .int))
theorem zk_X3_leastOf : xg_zk mX3_leastOf 2 := ⟨by decide +kernel, by decide +kernel, by decide +kernel, by decide +kernel⟩
theorem py_X3_leastOf : plainName mX3_leastOf.1.cls = true := by decide +kernel
abbrev mX3_mostOf : xg_Y := (yX3_mostOf, cX3_mostOf, 2, (some .int))
theorem zk_X3_mostOf : xg_zk mX3_mostOf 2 := ⟨by decide +kernel, by decide +kernel, by decide +kernel, by decide +kernel⟩
theorem py_X3_mostOf : plainName mX3_mostOf.1.cls = true := by decide +kernel
abbrev mX3_wordText : xg_Y := (yX3_wordText, cX3_wordText, 1, (some (.object "java/lang/String")))
theorem zk_X3_wordText : xg_zk mX3_wordText 1 := ⟨by decide +kernel, by decide +kernel, by decide +kernel, by decide +kernel⟩
theorem py_X3_wordText : plainName mX3_wordText.1.cls = true := by decide +kernel
abbrev mX3_readWord : xg_Y := (yX3_readWord, cX3_readWord, 2, (some .int))
theorem zk_X3_readWord : xg_zk mX3_readWord 0 := ⟨by decide +kernel, by decide +kernel, by decide +kernel, by decide +kernel⟩
theorem py_X3_readWord : plainName mX3_readWord.1.cls = true := by decide +kernel
abbrev mX3_isToken : xg_Y := (yX3_isToken, cX3_isToken, 3, (some .boolean))
theorem zk_X3_isToken : xg_zk mX3_isToken 1 := ⟨by decide +kernel, by decide +kernel, by decide +kernel, by decide +kernel⟩
theorem py_X3_isToken : plainName mX3_isToken.1.cls = true := by decide +kernel
abbrev mX3_readNumber : xg_Y := (yX3_readNumber, cX3_readNumber, 3, (some .int))
theorem zk_X3_readNumber : xg_zk mX3_readNumber 0 := ⟨by decide +kernel, by decide +kernel, by decide +kernel, by decide +kernel⟩
theorem py_X3_readNumber : plainName mX3_readNumber.1.cls = true := by decide +kernel
abbrev mX3_nextToken : xg_Y := (yX3_nextToken, cX3_nextToken, 2, none)
theorem zk_X3_nextToken : xg_zk mX3_nextToken 0 := ⟨by decide +kernel, by decide +kernel, by decide +kernel, by decide +kernel⟩
theorem py_X3_nextToken : plainName mX3_nextToken.1.cls = true := by decide +kernel
abbrev mX3_letterAt : xg_Y := (yX3_letterAt, cX3_letterAt, 2, (some .int))
theorem zk_X3_letterAt : xg_zk mX3_letterAt 1 := ⟨by decide +kernel, by decide +kernel, by decide +kernel, by decide +kernel⟩
theorem py_X3_letterAt : plainName mX3_letterAt.1.cls = true := by decide +kernel
abbrev mX3_isSmall : xg_Y := (yX3_isSmall, cX3_isSmall, 1, (some .boolean))
theorem zk_X3_isSmall : xg_zk mX3_isSmall 1 := ⟨by decide +kernel, by decide +kernel, by decide +kernel, by decide +kernel⟩
theorem py_X3_isSmall : plainName mX3_isSmall.1.cls = true := by decide +kernel
abbrev mX3_isDigit : xg_Y := (yX3_isDigit, cX3_isDigit, 1, (some .boolean))
theorem zk_X3_isDigit : xg_zk mX3_isDigit 1 := ⟨by decide +kernel, by decide +kernel, by decide +kernel, by decide +kernel⟩
theorem py_X3_isDigit : plainName mX3_isDigit.1.cls = true := by decide +kernel
abbrev mX4_write : xg_Y := (yX4_write, cX4_write, 2, (some .int))
theorem zk_X4_write : xg_zk mX4_write 1 := ⟨by decide +kernel, by decide +kernel, by decide +kernel, by decide +kernel⟩
theorem py_X4_write : plainName mX4_write.1.cls = true := by decide +kernel
abbrev mX4_erase : xg_Y := (yX4_erase, cX4_erase, 2, (some .int))
theorem zk_X4_erase : xg_zk mX4_erase 0 := ⟨by decide +kernel, by decide +kernel, by decide +kernel, by decide +kernel⟩
theorem py_X4_erase : plainName mX4_erase.1.cls = true := by decide +kernel
abbrev mX4_fault : xg_Y := (yX4_fault, cX4_fault, 1, (some .int))
theorem zk_X4_fault : xg_zk mX4_fault 0 := ⟨by decide +kernel, by decide +kernel, by decide +kernel, by decide +kernel⟩
theorem py_X4_fault : plainName mX4_fault.1.cls = true := by decide +kernel
abbrev mX4_court : xg_Y := (yX4_court, cX4_court, 1, (some .int))
theorem zk_X4_court : xg_zk mX4_court 0 := ⟨by decide +kernel, by decide +kernel, by decide +kernel, by decide +kernel⟩
theorem py_X4_court : plainName mX4_court.1.cls = true := by decide +kernel
abbrev mX4_thing : xg_Y := (yX4_thing, cX4_thing, 3, (some .int))
theorem zk_X4_thing : xg_zk mX4_thing 2 := ⟨by decide +kernel, by decide +kernel, by decide +kernel, by decide +kernel⟩
theorem py_X4_thing : plainName mX4_thing.1.cls = true := by decide +kernel
abbrev mX4_as : xg_Y := (yX4_as, cX4_as, 3, (some .int))
theorem zk_X4_as : xg_zk mX4_as 2 := ⟨by decide +kernel, by decide +kernel, by decide +kernel, by decide +kernel⟩
theorem py_X4_as : plainName mX4_as.1.cls = true := by decide +kernel
abbrev mX4_floor : xg_Y := (yX4_floor, cX4_floor, 3, (some .int))
theorem zk_X4_floor : xg_zk mX4_floor 2 := ⟨by decide +kernel, by decide +kernel, by decide +kernel, by decide +kernel⟩
theorem py_X4_floor : plainName mX4_floor.1.cls = true := by decide +kernel
abbrev mX4_hand : xg_Y := (yX4_hand, cX4_hand, 2, (some .int))
theorem zk_X4_hand : xg_zk mX4_hand 1 := ⟨by decide +kernel, by decide +kernel, by decide +kernel, by decide +kernel⟩
theorem py_X4_hand : plainName mX4_hand.1.cls = true := by decide +kernel
abbrev mX4_touch : xg_Y := (yX4_touch, cX4_touch, 2, (some .int))
theorem zk_X4_touch : xg_zk mX4_touch 1 := ⟨by decide +kernel, by decide +kernel, by decide +kernel, by decide +kernel⟩
theorem py_X4_touch : plainName mX4_touch.1.cls = true := by decide +kernel
abbrev mX4_by : xg_Y := (yX4_by, cX4_by, 3, (some .int))
theorem zk_X4_by : xg_zk mX4_by 2 := ⟨by decide +kernel, by decide +kernel, by decide +kernel, by decide +kernel⟩
theorem py_X4_by : plainName mX4_by.1.cls = true := by decide +kernel
abbrev mX4_eat : xg_Y := (yX4_eat, cX4_eat, 4, (some .int))
theorem zk_X4_eat : xg_zk mX4_eat 2 := ⟨by decide +kernel, by decide +kernel, by decide +kernel, by decide +kernel⟩
theorem py_X4_eat : plainName mX4_eat.1.cls = true := by decide +kernel
abbrev mX4_bathe : xg_Y := (yX4_bathe, cX4_bathe, 1, (some .int))
theorem zk_X4_bathe : xg_zk mX4_bathe 0 := ⟨by decide +kernel, by decide +kernel, by decide +kernel, by decide +kernel⟩
theorem py_X4_bathe : plainName mX4_bathe.1.cls = true := by decide +kernel
abbrev mX4_idle : xg_Y := (yX4_idle, cX4_idle, 1, (some .int))
theorem zk_X4_idle : xg_zk mX4_idle 0 := ⟨by decide +kernel, by decide +kernel, by decide +kernel, by decide +kernel⟩
theorem py_X4_idle : plainName mX4_idle.1.cls = true := by decide +kernel
abbrev mX4_undo : xg_Y := (yX4_undo, cX4_undo, 1, (some .int))
theorem zk_X4_undo : xg_zk mX4_undo 0 := ⟨by decide +kernel, by decide +kernel, by decide +kernel, by decide +kernel⟩
theorem py_X4_undo : plainName mX4_undo.1.cls = true := by decide +kernel
abbrev mX4_keep : xg_Y := (yX4_keep, cX4_keep, 2, (some .int))
theorem zk_X4_keep : xg_zk mX4_keep 1 := ⟨by decide +kernel, by decide +kernel, by decide +kernel, by decide +kernel⟩
theorem py_X4_keep : plainName mX4_keep.1.cls = true := by decide +kernel
abbrev mX4_back : xg_Y := (yX4_back, cX4_back, 2, (some .int))
theorem zk_X4_back : xg_zk mX4_back 1 := ⟨by decide +kernel, by decide +kernel, by decide +kernel, by decide +kernel⟩
theorem py_X4_back : plainName mX4_back.1.cls = true := by decide +kernel
abbrev mX4_town : xg_Y := (yX4_town, cX4_town, 8, (some .int))
theorem zk_X4_town : xg_zk mX4_town 2 := ⟨by decide +kernel, by decide +kernel, by decide +kernel, by decide +kernel⟩
theorem py_X4_town : plainName mX4_town.1.cls = true := by decide +kernel
abbrev mX4_put : xg_Y := (yX4_put, cX4_put, 2, (some .int))
theorem zk_X4_put : xg_zk mX4_put 1 := ⟨by decide +kernel, by decide +kernel, by decide +kernel, by decide +kernel⟩
theorem py_X4_put : plainName mX4_put.1.cls = true := by decide +kernel
abbrev mX4_wipe : xg_Y := (yX4_wipe, cX4_wipe, 2, (some .int))
theorem zk_X4_wipe : xg_zk mX4_wipe 0 := ⟨by decide +kernel, by decide +kernel, by decide +kernel, by decide +kernel⟩
theorem py_X4_wipe : plainName mX4_wipe.1.cls = true := by decide +kernel
abbrev mX4_goes : xg_Y := (yX4_goes, cX4_goes, 4, (some .int))
theorem zk_X4_goes : xg_zk mX4_goes 1 := ⟨by decide +kernel, by decide +kernel, by decide +kernel, by decide +kernel⟩
theorem py_X4_goes : plainName mX4_goes.1.cls = true := by decide +kernel
abbrev mX4_task : xg_Y := (yX4_task, cX4_task, 2, (some .int))
theorem zk_X4_task : xg_zk mX4_task 1 := ⟨by decide +kernel, by decide +kernel, by decide +kernel, by decide +kernel⟩
theorem py_X4_task : plainName mX4_task.1.cls = true := by decide +kernel
abbrev mX4_drop : xg_Y := (yX4_drop, cX4_drop, 2, (some .int))
theorem zk_X4_drop : xg_zk mX4_drop 0 := ⟨by decide +kernel, by decide +kernel, by decide +kernel, by decide +kernel⟩
theorem py_X4_drop : plainName mX4_drop.1.cls = true := by decide +kernel
abbrev mX4_plan : xg_Y := (yX4_plan, cX4_plan, 2, (some .int))
theorem zk_X4_plan : xg_zk mX4_plan 1 := ⟨by decide +kernel, by decide +kernel, by decide +kernel, by decide +kernel⟩
theorem py_X4_plan : plainName mX4_plan.1.cls = true := by decide +kernel
abbrev mX4_price : xg_Y := (yX4_price, cX4_price, 3, (some .int))
theorem zk_X4_price : xg_zk mX4_price 1 := ⟨by decide +kernel, by decide +kernel, by decide +kernel, by decide +kernel⟩
theorem py_X4_price : plainName mX4_price.1.cls = true := by decide +kernel
abbrev mX4_sell : xg_Y := (yX4_sell, cX4_sell, 6, (some .int))
theorem zk_X4_sell : xg_zk mX4_sell 1 := ⟨by decide +kernel, by decide +kernel, by decide +kernel, by decide +kernel⟩
theorem py_X4_sell : plainName mX4_sell.1.cls = true := by decide +kernel
abbrev mX4_thief : xg_Y := (yX4_thief, cX4_thief, 7, (some .int))
theorem zk_X4_thief : xg_zk mX4_thief 1 := ⟨by decide +kernel, by decide +kernel, by decide +kernel, by decide +kernel⟩
theorem py_X4_thief : plainName mX4_thief.1.cls = true := by decide +kernel
abbrev mX4_look : xg_Y := (yX4_look, cX4_look, 4, (some .int))
theorem zk_X4_look : xg_zk mX4_look 3 := ⟨by decide +kernel, by decide +kernel, by decide +kernel, by decide +kernel⟩
theorem py_X4_look : plainName mX4_look.1.cls = true := by decide +kernel
abbrev mX4_forget : xg_Y := (yX4_forget, cX4_forget, 2, (some .int))
theorem zk_X4_forget : xg_zk mX4_forget 0 := ⟨by decide +kernel, by decide +kernel, by decide +kernel, by decide +kernel⟩
theorem py_X4_forget : plainName mX4_forget.1.cls = true := by decide +kernel
abbrev mX4_fit : xg_Y := (yX4_fit, cX4_fit, 4, (some .int))
theorem zk_X4_fit : xg_zk mX4_fit 1 := ⟨by decide +kernel, by decide +kernel, by decide +kernel, by decide +kernel⟩
theorem py_X4_fit : plainName mX4_fit.1.cls = true := by decide +kernel
abbrev mX4_baths : xg_Y := (yX4_baths, cX4_baths, 8, (some .int))
theorem zk_X4_baths : xg_zk mX4_baths 2 := ⟨by decide +kernel, by decide +kernel, by decide +kernel, by decide +kernel⟩
theorem py_X4_baths : plainName mX4_baths.1.cls = true := by decide +kernel
abbrev mX4_slips : xg_Y := (yX4_slips, cX4_slips, 15, (some .long))
theorem zk_X4_slips : xg_zk mX4_slips 4 := ⟨by decide +kernel, by decide +kernel, by decide +kernel, by decide +kernel⟩
theorem py_X4_slips : plainName mX4_slips.1.cls = true := by decide +kernel
abbrev mX4_count : xg_Y := (yX4_count, cX4_count, 2, (some .int))
theorem zk_X4_count : xg_zk mX4_count 1 := ⟨by decide +kernel, by decide +kernel, by decide +kernel, by decide +kernel⟩
theorem py_X4_count : plainName mX4_count.1.cls = true := by decide +kernel
abbrev mX4_hasBit : xg_Y := (yX4_hasBit, cX4_hasBit, 2, (some .boolean))
theorem zk_X4_hasBit : xg_zk mX4_hasBit 2 := ⟨by decide +kernel, by decide +kernel, by decide +kernel, by decide +kernel⟩
theorem py_X4_hasBit : plainName mX4_hasBit.1.cls = true := by decide +kernel
abbrev mX4_isThing : xg_Y := (yX4_isThing, cX4_isThing, 2, (some .boolean))
theorem zk_X4_isThing : xg_zk mX4_isThing 1 := ⟨by decide +kernel, by decide +kernel, by decide +kernel, by decide +kernel⟩
theorem py_X4_isThing : plainName mX4_isThing.1.cls = true := by decide +kernel
abbrev mX4_isUnder : xg_Y := (yX4_isUnder, cX4_isUnder, 4, (some .boolean))
theorem zk_X4_isUnder : xg_zk mX4_isUnder 2 := ⟨by decide +kernel, by decide +kernel, by decide +kernel, by decide +kernel⟩
theorem py_X4_isUnder : plainName mX4_isUnder.1.cls = true := by decide +kernel
abbrev mX4_handIn : xg_Y := (yX4_handIn, cX4_handIn, 5, (some .int))
theorem zk_X4_handIn : xg_zk mX4_handIn 3 := ⟨by decide +kernel, by decide +kernel, by decide +kernel, by decide +kernel⟩
theorem py_X4_handIn : plainName mX4_handIn.1.cls = true := by decide +kernel
abbrev mX4_startDay : xg_Y := (yX4_startDay, cX4_startDay, 1, none)
theorem zk_X4_startDay : xg_zk mX4_startDay 0 := ⟨by decide +kernel, by decide +kernel, by decide +kernel, by decide +kernel⟩
theorem py_X4_startDay : plainName mX4_startDay.1.cls = true := by decide +kernel
abbrev mX4_servesAsTool : xg_Y := (yX4_servesAsTool, cX4_servesAsTool, 3, (some .boolean))
theorem zk_X4_servesAsTool : xg_zk mX4_servesAsTool 2 := ⟨by decide +kernel, by decide +kernel, by decide +kernel, by decide +kernel⟩
theorem py_X4_servesAsTool : plainName mX4_servesAsTool.1.cls = true := by decide +kernel
abbrev mX4_remember : xg_Y := (yX4_remember, cX4_remember, 3, none)
theorem zk_X4_remember : xg_zk mX4_remember 0 := ⟨by decide +kernel, by decide +kernel, by decide +kernel, by decide +kernel⟩
theorem py_X4_remember : plainName mX4_remember.1.cls = true := by decide +kernel
abbrev mX4_doTouching : xg_Y := (yX4_doTouching, cX4_doTouching, 3, (some .int))
theorem zk_X4_doTouching : xg_zk mX4_doTouching 1 := ⟨by decide +kernel, by decide +kernel, by decide +kernel, by decide +kernel⟩
theorem py_X4_doTouching : plainName mX4_doTouching.1.cls = true := by decide +kernel
abbrev mX4_doEating : xg_Y := (yX4_doEating, cX4_doEating, 4, (some .int))
theorem zk_X4_doEating : xg_zk mX4_doEating 2 := ⟨by decide +kernel, by decide +kernel, by decide +kernel, by decide +kernel⟩
theorem py_X4_doEating : plainName mX4_doEating.1.cls = true := by decide +kernel
abbrev mX4_townThings : xg_Y := (yX4_townThings, cX4_townThings, 3, (some .int))
theorem zk_X4_townThings : xg_zk mX4_townThings 0 := ⟨by decide +kernel, by decide +kernel, by decide +kernel, by decide +kernel⟩
theorem py_X4_townThings : plainName mX4_townThings.1.cls = true := by decide +kernel
abbrev mX4_thiefGain : xg_Y := (yX4_thiefGain, cX4_thiefGain, 3, (some .int))
theorem zk_X4_thiefGain : xg_zk mX4_thiefGain 2 := ⟨by decide +kernel, by decide +kernel, by decide +kernel, by decide +kernel⟩
theorem py_X4_thiefGain : plainName mX4_thiefGain.1.cls = true := by decide +kernel
abbrev mX4_isRest : xg_Y := (yX4_isRest, cX4_isRest, 5, (some .boolean))
theorem zk_X4_isRest : xg_zk mX4_isRest 2 := ⟨by decide +kernel, by decide +kernel, by decide +kernel, by decide +kernel⟩
theorem py_X4_isRest : plainName mX4_isRest.1.cls = true := by decide +kernel
abbrev mX4_goldEnd : xg_Y := (yX4_goldEnd, cX4_goldEnd, 3, (some .int))
theorem zk_X4_goldEnd : xg_zk mX4_goldEnd 1 := ⟨by decide +kernel, by decide +kernel, by decide +kernel, by decide +kernel⟩
theorem py_X4_goldEnd : plainName mX4_goldEnd.1.cls = true := by decide +kernel
abbrev mX4_fitsSeen : xg_Y := (yX4_fitsSeen, cX4_fitsSeen, 6, (some .boolean))
theorem zk_X4_fitsSeen : xg_zk mX4_fitsSeen 3 := ⟨by decide +kernel, by decide +kernel, by decide +kernel, by decide +kernel⟩
theorem py_X4_fitsSeen : plainName mX4_fitsSeen.1.cls = true := by decide +kernel
abbrev mX4_cleanAnyway : xg_Y := (yX4_cleanAnyway, cX4_cleanAnyway, 3, (some .int))
theorem zk_X4_cleanAnyway : xg_zk mX4_cleanAnyway 0 := ⟨by decide +kernel, by decide +kernel, by decide +kernel, by decide +kernel⟩
theorem py_X4_cleanAnyway : plainName mX4_cleanAnyway.1.cls = true := by decide +kernel
abbrev mX4_cleanBehind : xg_Y := (yX4_cleanBehind, cX4_cleanBehind, 4, (some .int))
theorem zk_X4_cleanBehind : xg_zk mX4_cleanBehind 1 := ⟨by decide +kernel, by decide +kernel, by decide +kernel, by decide +kernel⟩
theorem py_X4_cleanBehind : plainName mX4_cleanBehind.1.cls = true := by decide +kernel
abbrev mX4_power : xg_Y := (yX4_power, cX4_power, 5, (some .long))
theorem zk_X4_power : xg_zk mX4_power 2 := ⟨by decide +kernel, by decide +kernel, by decide +kernel, by decide +kernel⟩
theorem py_X4_power : plainName mX4_power.1.cls = true := by decide +kernel
abbrev mX4_commonDivisor : xg_Y := (yX4_commonDivisor, cX4_commonDivisor, 11, (some .long))
theorem zk_X4_commonDivisor : xg_zk mX4_commonDivisor 2 := ⟨by decide +kernel, by decide +kernel, by decide +kernel, by decide +kernel⟩
theorem py_X4_commonDivisor : plainName mX4_commonDivisor.1.cls = true := by decide +kernel
abbrev mX5_in : xg_Y := (yX5_in, cX5_in, 3, (some .boolean))
theorem zk_X5_in : xg_zk mX5_in 3 := ⟨by decide +kernel, by decide +kernel, by decide +kernel, by decide +kernel⟩
theorem py_X5_in : plainName mX5_in.1.cls = true := by decide +kernel
abbrev mX5_has : xg_Y := (yX5_has, cX5_has, 2, (some .boolean))
theorem zk_X5_has : xg_zk mX5_has 2 := ⟨by decide +kernel, by decide +kernel, by decide +kernel, by decide +kernel⟩
theorem py_X5_has : plainName mX5_has.1.cls = true := by decide +kernel
abbrev mX5_bits : xg_Y := (yX5_bits, cX5_bits, 3, (some .int))
theorem zk_X5_bits : xg_zk mX5_bits 1 := ⟨by decide +kernel, by decide +kernel, by decide +kernel, by decide +kernel⟩
theorem py_X5_bits : plainName mX5_bits.1.cls = true := by decide +kernel
abbrev mX5_plain : xg_Y := (yX5_plain, cX5_plain, 1, none)
theorem zk_X5_plain : xg_zk mX5_plain 0 := ⟨by decide +kernel, by decide +kernel, by decide +kernel, by decide +kernel⟩
theorem py_X5_plain : plainName mX5_plain.1.cls = true := by decide +kernel
abbrev mX5_begin : xg_Y := (yX5_begin, cX5_begin, 2, none)
theorem zk_X5_begin : xg_zk mX5_begin 0 := ⟨by decide +kernel, by decide +kernel, by decide +kernel, by decide +kernel⟩
theorem py_X5_begin : plainName mX5_begin.1.cls = true := by decide +kernel
abbrev mX5_kindOf : xg_Y := (yX5_kindOf, cX5_kindOf, 2, (some .int))
theorem zk_X5_kindOf : xg_zk mX5_kindOf 1 := ⟨by decide +kernel, by decide +kernel, by decide +kernel, by decide +kernel⟩
theorem py_X5_kindOf : plainName mX5_kindOf.1.cls = true := by decide +kernel
abbrev mX5_floorOf : xg_Y := (yX5_floorOf, cX5_floorOf, 2, (some .int))
theorem zk_X5_floorOf : xg_zk mX5_floorOf 1 := ⟨by decide +kernel, by decide +kernel, by decide +kernel, by decide +kernel⟩
theorem py_X5_floorOf : plainName mX5_floorOf.1.cls = true := by decide +kernel
abbrev mX5_isThing : xg_Y := (yX5_isThing, cX5_isThing, 2, (some .boolean))
theorem zk_X5_isThing : xg_zk mX5_isThing 1 := ⟨by decide +kernel, by decide +kernel, by decide +kernel, by decide +kernel⟩
theorem py_X5_isThing : plainName mX5_isThing.1.cls = true := by decide +kernel
abbrev mX5_write : xg_Y := (yX5_write, cX5_write, 2, (some .int))
theorem zk_X5_write : xg_zk mX5_write 1 := ⟨by decide +kernel, by decide +kernel, by decide +kernel, by decide +kernel⟩
theorem py_X5_write : plainName mX5_write.1.cls = true := by decide +kernel
abbrev mX5_erase : xg_Y := (yX5_erase, cX5_erase, 2, (some .int))
theorem zk_X5_erase : xg_zk mX5_erase 0 := ⟨by decide +kernel, by decide +kernel, by decide +kernel, by decide +kernel⟩
theorem py_X5_erase : plainName mX5_erase.1.cls = true := by decide +kernel
abbrev mX5_nextToken : xg_Y := (yX5_nextToken, cX5_nextToken, 1, none)
theorem zk_X5_nextToken : xg_zk mX5_nextToken 0 := ⟨by decide +kernel, by decide +kernel, by decide +kernel, by decide +kernel⟩
theorem py_X5_nextToken : plainName mX5_nextToken.1.cls = true := by decide +kernel
abbrev mX5_fails : xg_Y := (yX5_fails, cX5_fails, 1, (some .boolean))
theorem zk_X5_fails : xg_zk mX5_fails 0 := ⟨by decide +kernel, by decide +kernel, by decide +kernel, by decide +kernel⟩
theorem py_X5_fails : plainName mX5_fails.1.cls = true := by decide +kernel
abbrev mX5_isNumber : xg_Y := (yX5_isNumber, cX5_isNumber, 4, (some .boolean))
theorem zk_X5_isNumber : xg_zk mX5_isNumber 3 := ⟨by decide +kernel, by decide +kernel, by decide +kernel, by decide +kernel⟩
theorem py_X5_isNumber : plainName mX5_isNumber.1.cls = true := by decide +kernel
abbrev mX5_isThingLine : xg_Y := (yX5_isThingLine, cX5_isThingLine, 2, (some .boolean))
theorem zk_X5_isThingLine : xg_zk mX5_isThingLine 1 := ⟨by decide +kernel, by decide +kernel, by decide +kernel, by decide +kernel⟩
theorem py_X5_isThingLine : plainName mX5_isThingLine.1.cls = true := by decide +kernel
abbrev mX5_isLine : xg_Y := (yX5_isLine, cX5_isLine, 4, (some .boolean))
theorem zk_X5_isLine : xg_zk mX5_isLine 1 := ⟨by decide +kernel, by decide +kernel, by decide +kernel, by decide +kernel⟩
theorem py_X5_isLine : plainName mX5_isLine.1.cls = true := by decide +kernel
abbrev mX5_isRead : xg_Y := (yX5_isRead, cX5_isRead, 2, (some .boolean))
theorem zk_X5_isRead : xg_zk mX5_isRead 0 := ⟨by decide +kernel, by decide +kernel, by decide +kernel, by decide +kernel⟩
theorem py_X5_isRead : plainName mX5_isRead.1.cls = true := by decide +kernel
abbrev mX5_fault : xg_Y := (yX5_fault, cX5_fault, 1, (some .int))
theorem zk_X5_fault : xg_zk mX5_fault 0 := ⟨by decide +kernel, by decide +kernel, by decide +kernel, by decide +kernel⟩
theorem py_X5_fault : plainName mX5_fault.1.cls = true := by decide +kernel
abbrev mX5_doLine : xg_Y := (yX5_doLine, cX5_doLine, 4, none)
theorem zk_X5_doLine : xg_zk mX5_doLine 1 := ⟨by decide +kernel, by decide +kernel, by decide +kernel, by decide +kernel⟩
theorem py_X5_doLine : plainName mX5_doLine.1.cls = true := by decide +kernel
abbrev mX5_court : xg_Y := (yX5_court, cX5_court, 2, (some .int))
theorem zk_X5_court : xg_zk mX5_court 0 := ⟨by decide +kernel, by decide +kernel, by decide +kernel, by decide +kernel⟩
theorem py_X5_court : plainName mX5_court.1.cls = true := by decide +kernel
abbrev mX5_weighs : xg_Y := (yX5_weighs, cX5_weighs, 3, (some .int))
theorem zk_X5_weighs : xg_zk mX5_weighs 2 := ⟨by decide +kernel, by decide +kernel, by decide +kernel, by decide +kernel⟩
theorem py_X5_weighs : plainName mX5_weighs.1.cls = true := by decide +kernel
abbrev mX5_loadOf : xg_Y := (yX5_loadOf, cX5_loadOf, 5, (some .int))
theorem zk_X5_loadOf : xg_zk mX5_loadOf 2 := ⟨by decide +kernel, by decide +kernel, by decide +kernel, by decide +kernel⟩
theorem py_X5_loadOf : plainName mX5_loadOf.1.cls = true := by decide +kernel
abbrev mX5_isThere : xg_Y := (yX5_isThere, cX5_isThere, 3, (some .boolean))
theorem zk_X5_isThere : xg_zk mX5_isThere 2 := ⟨by decide +kernel, by decide +kernel, by decide +kernel, by decide +kernel⟩
theorem py_X5_isThere : plainName mX5_isThere.1.cls = true := by decide +kernel
abbrev mX5_priceOf : xg_Y := (yX5_priceOf, cX5_priceOf, 3, (some .int))
theorem zk_X5_priceOf : xg_zk mX5_priceOf 2 := ⟨by decide +kernel, by decide +kernel, by decide +kernel, by decide +kernel⟩
theorem py_X5_priceOf : plainName mX5_priceOf.1.cls = true := by decide +kernel
abbrev mX5_pricesOf : xg_Y := (yX5_pricesOf, cX5_pricesOf, 4, (some .int))
theorem zk_X5_pricesOf : xg_zk mX5_pricesOf 1 := ⟨by decide +kernel, by decide +kernel, by decide +kernel, by decide +kernel⟩
theorem py_X5_pricesOf : plainName mX5_pricesOf.1.cls = true := by decide +kernel
abbrev mX5_thing : xg_Y := (yX5_thing, cX5_thing, 3, (some .int))
theorem zk_X5_thing : xg_zk mX5_thing 2 := ⟨by decide +kernel, by decide +kernel, by decide +kernel, by decide +kernel⟩
theorem py_X5_thing : plainName mX5_thing.1.cls = true := by decide +kernel
abbrev mX5_as : xg_Y := (yX5_as, cX5_as, 5, (some .int))
theorem zk_X5_as : xg_zk mX5_as 2 := ⟨by decide +kernel, by decide +kernel, by decide +kernel, by decide +kernel⟩
theorem py_X5_as : plainName mX5_as.1.cls = true := by decide +kernel
abbrev mX5_isTask : xg_Y := (yX5_isTask, cX5_isTask, 4, (some .boolean))
theorem zk_X5_isTask : xg_zk mX5_isTask 1 := ⟨by decide +kernel, by decide +kernel, by decide +kernel, by decide +kernel⟩
theorem py_X5_isTask : plainName mX5_isTask.1.cls = true := by decide +kernel
abbrev mX5_toolOf : xg_Y := (yX5_toolOf, cX5_toolOf, 7, (some .int))
theorem zk_X5_toolOf : xg_zk mX5_toolOf 1 := ⟨by decide +kernel, by decide +kernel, by decide +kernel, by decide +kernel⟩
theorem py_X5_toolOf : plainName mX5_toolOf.1.cls = true := by decide +kernel
abbrev mX5_floor : xg_Y := (yX5_floor, cX5_floor, 3, (some .int))
theorem zk_X5_floor : xg_zk mX5_floor 2 := ⟨by decide +kernel, by decide +kernel, by decide +kernel, by decide +kernel⟩
theorem py_X5_floor : plainName mX5_floor.1.cls = true := by decide +kernel
abbrev mX5_handBehind : xg_Y := (yX5_handBehind, cX5_handBehind, 2, (some .int))
theorem zk_X5_handBehind : xg_zk mX5_handBehind 1 := ⟨by decide +kernel, by decide +kernel, by decide +kernel, by decide +kernel⟩
theorem py_X5_handBehind : plainName mX5_handBehind.1.cls = true := by decide +kernel
abbrev mX5_handIn : xg_Y := (yX5_handIn, cX5_handIn, 5, (some .int))
theorem zk_X5_handIn : xg_zk mX5_handIn 2 := ⟨by decide +kernel, by decide +kernel, by decide +kernel, by decide +kernel⟩
theorem py_X5_handIn : plainName mX5_handIn.1.cls = true := by decide +kernel
abbrev mX5_hand : xg_Y := (yX5_hand, cX5_hand, 2, (some .int))
theorem zk_X5_hand : xg_zk mX5_hand 1 := ⟨by decide +kernel, by decide +kernel, by decide +kernel, by decide +kernel⟩
theorem py_X5_hand : plainName mX5_hand.1.cls = true := by decide +kernel
abbrev mX5_note : xg_Y := (yX5_note, cX5_note, 2, none)
theorem zk_X5_note : xg_zk mX5_note 0 := ⟨by decide +kernel, by decide +kernel, by decide +kernel, by decide +kernel⟩
theorem py_X5_note : plainName mX5_note.1.cls = true := by decide +kernel
abbrev mX5_copy : xg_Y := (yX5_copy, cX5_copy, 5, none)
theorem zk_X5_copy : xg_zk mX5_copy 4 := ⟨by decide +kernel, by decide +kernel, by decide +kernel, by decide +kernel⟩
theorem py_X5_copy : plainName mX5_copy.1.cls = true := by decide +kernel
abbrev mX5_touches : xg_Y := (yX5_touches, cX5_touches, 3, none)
theorem zk_X5_touches : xg_zk mX5_touches 1 := ⟨by decide +kernel, by decide +kernel, by decide +kernel, by decide +kernel⟩
theorem py_X5_touches : plainName mX5_touches.1.cls = true := by decide +kernel
abbrev mX5_pass : xg_Y := (yX5_pass, cX5_pass, 3, none)
theorem zk_X5_pass : xg_zk mX5_pass 1 := ⟨by decide +kernel, by decide +kernel, by decide +kernel, by decide +kernel⟩
theorem py_X5_pass : plainName mX5_pass.1.cls = true := by decide +kernel
abbrev mX5_touch : xg_Y := (yX5_touch, cX5_touch, 3, (some .int))
theorem zk_X5_touch : xg_zk mX5_touch 1 := ⟨by decide +kernel, by decide +kernel, by decide +kernel, by decide +kernel⟩
theorem py_X5_touch : plainName mX5_touch.1.cls = true := by decide +kernel
abbrev mX5_isBy : xg_Y := (yX5_isBy, cX5_isBy, 3, (some .boolean))
theorem zk_X5_isBy : xg_zk mX5_isBy 2 := ⟨by decide +kernel, by decide +kernel, by decide +kernel, by decide +kernel⟩
theorem py_X5_isBy : plainName mX5_isBy.1.cls = true := by decide +kernel
abbrev mX5_by : xg_Y := (yX5_by, cX5_by, 4, (some .int))
theorem zk_X5_by : xg_zk mX5_by 2 := ⟨by decide +kernel, by decide +kernel, by decide +kernel, by decide +kernel⟩
theorem py_X5_by : plainName mX5_by.1.cls = true := by decide +kernel
abbrev mX5_eat : xg_Y := (yX5_eat, cX5_eat, 4, (some .int))
theorem zk_X5_eat : xg_zk mX5_eat 2 := ⟨by decide +kernel, by decide +kernel, by decide +kernel, by decide +kernel⟩
theorem py_X5_eat : plainName mX5_eat.1.cls = true := by decide +kernel
abbrev mX5_bathe : xg_Y := (yX5_bathe, cX5_bathe, 1, (some .int))
theorem zk_X5_bathe : xg_zk mX5_bathe 0 := ⟨by decide +kernel, by decide +kernel, by decide +kernel, by decide +kernel⟩
theorem py_X5_bathe : plainName mX5_bathe.1.cls = true := by decide +kernel
abbrev mX5_idle : xg_Y := (yX5_idle, cX5_idle, 1, (some .int))
theorem zk_X5_idle : xg_zk mX5_idle 0 := ⟨by decide +kernel, by decide +kernel, by decide +kernel, by decide +kernel⟩
theorem py_X5_idle : plainName mX5_idle.1.cls = true := by decide +kernel
abbrev mX5_undo : xg_Y := (yX5_undo, cX5_undo, 1, (some .int))
theorem zk_X5_undo : xg_zk mX5_undo 0 := ⟨by decide +kernel, by decide +kernel, by decide +kernel, by decide +kernel⟩
theorem py_X5_undo : plainName mX5_undo.1.cls = true := by decide +kernel
abbrev mX5_keep : xg_Y := (yX5_keep, cX5_keep, 2, (some .int))
theorem zk_X5_keep : xg_zk mX5_keep 1 := ⟨by decide +kernel, by decide +kernel, by decide +kernel, by decide +kernel⟩
theorem py_X5_keep : plainName mX5_keep.1.cls = true := by decide +kernel
abbrev mX5_back : xg_Y := (yX5_back, cX5_back, 2, (some .int))
theorem zk_X5_back : xg_zk mX5_back 1 := ⟨by decide +kernel, by decide +kernel, by decide +kernel, by decide +kernel⟩
theorem py_X5_back : plainName mX5_back.1.cls = true := by decide +kernel
abbrev mX5_tooLoaded : xg_Y := (yX5_tooLoaded, cX5_tooLoaded, 4, (some .int))
theorem zk_X5_tooLoaded : xg_zk mX5_tooLoaded 1 := ⟨by decide +kernel, by decide +kernel, by decide +kernel, by decide +kernel⟩
theorem py_X5_tooLoaded : plainName mX5_tooLoaded.1.cls = true := by decide +kernel
abbrev mX5_town : xg_Y := (yX5_town, cX5_town, 9, (some .int))
theorem zk_X5_town : xg_zk mX5_town 2 := ⟨by decide +kernel, by decide +kernel, by decide +kernel, by decide +kernel⟩
theorem py_X5_town : plainName mX5_town.1.cls = true := by decide +kernel
abbrev mX5_put : xg_Y := (yX5_put, cX5_put, 2, (some .int))
theorem zk_X5_put : xg_zk mX5_put 1 := ⟨by decide +kernel, by decide +kernel, by decide +kernel, by decide +kernel⟩
theorem py_X5_put : plainName mX5_put.1.cls = true := by decide +kernel
abbrev mX5_wipe : xg_Y := (yX5_wipe, cX5_wipe, 2, (some .int))
theorem zk_X5_wipe : xg_zk mX5_wipe 0 := ⟨by decide +kernel, by decide +kernel, by decide +kernel, by decide +kernel⟩
theorem py_X5_wipe : plainName mX5_wipe.1.cls = true := by decide +kernel
abbrev mX5_goes : xg_Y := (yX5_goes, cX5_goes, 4, (some .int))
theorem zk_X5_goes : xg_zk mX5_goes 1 := ⟨by decide +kernel, by decide +kernel, by decide +kernel, by decide +kernel⟩
theorem py_X5_goes : plainName mX5_goes.1.cls = true := by decide +kernel
abbrev mX5_task : xg_Y := (yX5_task, cX5_task, 2, (some .int))
theorem zk_X5_task : xg_zk mX5_task 1 := ⟨by decide +kernel, by decide +kernel, by decide +kernel, by decide +kernel⟩
theorem py_X5_task : plainName mX5_task.1.cls = true := by decide +kernel
abbrev mX5_drop : xg_Y := (yX5_drop, cX5_drop, 2, (some .int))
theorem zk_X5_drop : xg_zk mX5_drop 0 := ⟨by decide +kernel, by decide +kernel, by decide +kernel, by decide +kernel⟩
theorem py_X5_drop : plainName mX5_drop.1.cls = true := by decide +kernel
abbrev mX5_placeOf : xg_Y := (yX5_placeOf, cX5_placeOf, 4, (some .int))
theorem zk_X5_placeOf : xg_zk mX5_placeOf 4 := ⟨by decide +kernel, by decide +kernel, by decide +kernel, by decide +kernel⟩
theorem py_X5_placeOf : plainName mX5_placeOf.1.cls = true := by decide +kernel
abbrev mX5_goldBy : xg_Y := (yX5_goldBy, cX5_goldBy, 6, (some .int))
theorem zk_X5_goldBy : xg_zk mX5_goldBy 4 := ⟨by decide +kernel, by decide +kernel, by decide +kernel, by decide +kernel⟩
theorem py_X5_goldBy : plainName mX5_goldBy.1.cls = true := by decide +kernel
abbrev mX5_costBy : xg_Y := (yX5_costBy, cX5_costBy, 4, (some .int))
theorem zk_X5_costBy : xg_zk mX5_costBy 3 := ⟨by decide +kernel, by decide +kernel, by decide +kernel, by decide +kernel⟩
theorem py_X5_costBy : plainName mX5_costBy.1.cls = true := by decide +kernel
abbrev mX5_canDo : xg_Y := (yX5_canDo, cX5_canDo, 5, (some .boolean))
theorem zk_X5_canDo : xg_zk mX5_canDo 3 := ⟨by decide +kernel, by decide +kernel, by decide +kernel, by decide +kernel⟩
theorem py_X5_canDo : plainName mX5_canDo.1.cls = true := by decide +kernel
abbrev mX5_behind : xg_Y := (yX5_behind, cX5_behind, 8, (some .int))
theorem zk_X5_behind : xg_zk mX5_behind 5 := ⟨by decide +kernel, by decide +kernel, by decide +kernel, by decide +kernel⟩
theorem py_X5_behind : plainName mX5_behind.1.cls = true := by decide +kernel
abbrev mX5_costOf : xg_Y := (yX5_costOf, cX5_costOf, 6, (some .int))
theorem zk_X5_costOf : xg_zk mX5_costOf 4 := ⟨by decide +kernel, by decide +kernel, by decide +kernel, by decide +kernel⟩
theorem py_X5_costOf : plainName mX5_costOf.1.cls = true := by decide +kernel
abbrev mX5_deedAt : xg_Y := (yX5_deedAt, cX5_deedAt, 1, (some .int))
theorem zk_X5_deedAt : xg_zk mX5_deedAt 1 := ⟨by decide +kernel, by decide +kernel, by decide +kernel, by decide +kernel⟩
theorem py_X5_deedAt : plainName mX5_deedAt.1.cls = true := by decide +kernel
abbrev mX5_layPlans : xg_Y := (yX5_layPlans, cX5_layPlans, 12, none)
theorem zk_X5_layPlans : xg_zk mX5_layPlans 0 := ⟨by decide +kernel, by decide +kernel, by decide +kernel, by decide +kernel⟩
theorem py_X5_layPlans : plainName mX5_layPlans.1.cls = true := by decide +kernel
abbrev mX5_plan : xg_Y := (yX5_plan, cX5_plan, 11, (some .int))
theorem zk_X5_plan : xg_zk mX5_plan 1 := ⟨by decide +kernel, by decide +kernel, by decide +kernel, by decide +kernel⟩
theorem py_X5_plan : plainName mX5_plan.1.cls = true := by decide +kernel
abbrev mX5_pricesIn : xg_Y := (yX5_pricesIn, cX5_pricesIn, 2, (some .int))
theorem zk_X5_pricesIn : xg_zk mX5_pricesIn 1 := ⟨by decide +kernel, by decide +kernel, by decide +kernel, by decide +kernel⟩
theorem py_X5_pricesIn : plainName mX5_pricesIn.1.cls = true := by decide +kernel
abbrev mX5_price : xg_Y := (yX5_price, cX5_price, 2, (some .int))
theorem zk_X5_price : xg_zk mX5_price 1 := ⟨by decide +kernel, by decide +kernel, by decide +kernel, by decide +kernel⟩
theorem py_X5_price : plainName mX5_price.1.cls = true := by decide +kernel
abbrev mX5_sell : xg_Y := (yX5_sell, cX5_sell, 4, (some .int))
theorem zk_X5_sell : xg_zk mX5_sell 1 := ⟨by decide +kernel, by decide +kernel, by decide +kernel, by decide +kernel⟩
theorem py_X5_sell : plainName mX5_sell.1.cls = true := by decide +kernel
abbrev mX5_lootOf : xg_Y := (yX5_lootOf, cX5_lootOf, 4, (some .int))
theorem zk_X5_lootOf : xg_zk mX5_lootOf 2 := ⟨by decide +kernel, by decide +kernel, by decide +kernel, by decide +kernel⟩
theorem py_X5_lootOf : plainName mX5_lootOf.1.cls = true := by decide +kernel
abbrev mX5_thief : xg_Y := (yX5_thief, cX5_thief, 9, (some .int))
theorem zk_X5_thief : xg_zk mX5_thief 1 := ⟨by decide +kernel, by decide +kernel, by decide +kernel, by decide +kernel⟩
theorem py_X5_thief : plainName mX5_thief.1.cls = true := by decide +kernel
abbrev mX5_look : xg_Y := (yX5_look, cX5_look, 4, (some .int))
theorem zk_X5_look : xg_zk mX5_look 3 := ⟨by decide +kernel, by decide +kernel, by decide +kernel, by decide +kernel⟩
theorem py_X5_look : plainName mX5_look.1.cls = true := by decide +kernel
abbrev mX5_forget : xg_Y := (yX5_forget, cX5_forget, 2, (some .int))
theorem zk_X5_forget : xg_zk mX5_forget 0 := ⟨by decide +kernel, by decide +kernel, by decide +kernel, by decide +kernel⟩
theorem py_X5_forget : plainName mX5_forget.1.cls = true := by decide +kernel
abbrev mX5_isGold : xg_Y := (yX5_isGold, cX5_isGold, 4, (some .boolean))
theorem zk_X5_isGold : xg_zk mX5_isGold 2 := ⟨by decide +kernel, by decide +kernel, by decide +kernel, by decide +kernel⟩
theorem py_X5_isGold : plainName mX5_isGold.1.cls = true := by decide +kernel
abbrev mX5_fit : xg_Y := (yX5_fit, cX5_fit, 6, (some .int))
theorem zk_X5_fit : xg_zk mX5_fit 1 := ⟨by decide +kernel, by decide +kernel, by decide +kernel, by decide +kernel⟩
theorem py_X5_fit : plainName mX5_fit.1.cls = true := by decide +kernel
abbrev mX5_baths : xg_Y := (yX5_baths, cX5_baths, 8, (some .int))
theorem zk_X5_baths : xg_zk mX5_baths 2 := ⟨by decide +kernel, by decide +kernel, by decide +kernel, by decide +kernel⟩
theorem py_X5_baths : plainName mX5_baths.1.cls = true := by decide +kernel
abbrev mX5_slips : xg_Y := (yX5_slips, cX5_slips, 17, (some .long))
theorem zk_X5_slips : xg_zk mX5_slips 4 := ⟨by decide +kernel, by decide +kernel, by decide +kernel, by decide +kernel⟩
theorem py_X5_slips : plainName mX5_slips.1.cls = true := by decide +kernel
abbrev mX5_count : xg_Y := (yX5_count, cX5_count, 4, (some .int))
theorem zk_X5_count : xg_zk mX5_count 1 := ⟨by decide +kernel, by decide +kernel, by decide +kernel, by decide +kernel⟩
theorem py_X5_count : plainName mX5_count.1.cls = true := by decide +kernel
abbrev mJ6_bitCount_0f7a4 : xg_Y := (yJ6_bitCount_0f7a4, cJ6_bitCount_0f7a4, 1, (some .int))
theorem zk_J6_bitCount_0f7a4 : xg_zk mJ6_bitCount_0f7a4 1 := ⟨by decide +kernel, by decide +kernel, by decide +kernel, by decide +kernel⟩
theorem py_J6_bitCount_0f7a4 : plainName mJ6_bitCount_0f7a4.1.cls = true := by decide +kernel
abbrev mJ9_max_7cf53 : xg_Y := (yJ9_max_7cf53, cJ9_max_7cf53, 2, (some .int))
theorem zk_J9_max_7cf53 : xg_zk mJ9_max_7cf53 2 := ⟨by decide +kernel, by decide +kernel, by decide +kernel, by decide +kernel⟩
abbrev mJ0_length_8abf5 : xg_Y := (yJ0_length_8abf5, cJ0_length_8abf5, 1, (some .int))
theorem zk_J0_length_8abf5 : xg_zk mJ0_length_8abf5 0 := ⟨by decide +kernel, by decide +kernel, by decide +kernel, by decide +kernel⟩
theorem py_J0_length_8abf5 : plainName mJ0_length_8abf5.1.cls = true := by decide +kernel
abbrev mJ0_charAt_5068e : xg_Y := (yJ0_charAt_5068e, cJ0_charAt_5068e, 2, (some .char))
theorem zk_J0_charAt_5068e : xg_zk mJ0_charAt_5068e 1 := ⟨by decide +kernel, by decide +kernel, by decide +kernel, by decide +kernel⟩
theorem py_J0_charAt_5068e : plainName mJ0_charAt_5068e.1.cls = true := by decide +kernel
abbrev mJ0_coder_7d493 : xg_Y := (yJ0_coder_7d493, cJ0_coder_7d493, 1, (some .byte))
theorem zk_J0_coder_7d493 : xg_zk mJ0_coder_7d493 0 := ⟨by decide +kernel, by decide +kernel, by decide +kernel, by decide +kernel⟩
theorem py_J0_coder_7d493 : plainName mJ0_coder_7d493.1.cls = true := by decide +kernel
abbrev mJ0_isLatin1_aae02 : xg_Y := (yJ0_isLatin1_aae02, cJ0_isLatin1_aae02, 1, (some .boolean))
theorem zk_J0_isLatin1_aae02 : xg_zk mJ0_isLatin1_aae02 0 := ⟨by decide +kernel, by decide +kernel, by decide +kernel, by decide +kernel⟩
theorem py_J0_isLatin1_aae02 : plainName mJ0_isLatin1_aae02.1.cls = true := by decide +kernel
abbrev mJ1_charAt_3b067 : xg_Y := (yJ1_charAt_3b067, cJ1_charAt_3b067, 2, (some .char))
theorem zk_J1_charAt_3b067 : xg_zk mJ1_charAt_3b067 2 := ⟨by decide +kernel, by decide +kernel, by decide +kernel, by decide +kernel⟩
theorem py_J1_charAt_3b067 : plainName mJ1_charAt_3b067.1.cls = true := by decide +kernel
theorem inb_X0 : ∀ w ∈ wsX00, w ∈ xg_tb := by decide +kernel
theorem inb_X1 : ∀ w ∈ wsX10, w ∈ xg_tb := by decide +kernel
theorem inb_X2 : ∀ w ∈ wsX20, w ∈ xg_tb := by decide +kernel
theorem inb_X3 : ∀ w ∈ wsX30, w ∈ xg_tb := by decide +kernel
theorem inb_X4 : ∀ w ∈ wsX40, w ∈ xg_tb := by decide +kernel
theorem inb_X5 : ∀ w ∈ wsX50, w ∈ xg_tb := by decide +kernel
theorem fs_J0_9 : Cond.fieldLink RJ0 9 RJ0 "value" "[B" ∈ xg_tb := (xg_mi 1104 (by decide +kernel) (by decide +kernel))
theorem fs_J0_15 : Cond.fieldLink RJ0 15 RJ0 "coder" "B" ∈ xg_tb := (xg_mi 1105 (by decide +kernel) (by decide +kernel))
theorem fl_X0_9 : xg_fl RX0 9 0 0 := ⟨_, _, _, rfl, by decide, inb_X0, (xg_mi 84 (by decide +kernel) (by decide +kernel))⟩
theorem fl_X0_15 : xg_fl RX0 15 0 1 := ⟨_, _, _, rfl, by decide, inb_X0, (xg_mi 87 (by decide +kernel) (by decide +kernel))⟩
theorem fl_X0_18 : xg_fl RX0 18 0 2 := ⟨_, _, _, rfl, by decide, inb_X0, (xg_mi 91 (by decide +kernel) (by decide +kernel))⟩
theorem fl_X0_21 : xg_fl RX0 21 0 3 := ⟨_, _, _, rfl, by decide, inb_X0, (xg_mi 94 (by decide +kernel) (by decide +kernel))⟩
theorem fl_X0_24 : xg_fl RX0 24 0 4 := ⟨_, _, _, rfl, by decide, inb_X0, (xg_mi 98 (by decide +kernel) (by decide +kernel))⟩
theorem fl_X0_27 : xg_fl RX0 27 0 6 := ⟨_, _, _, rfl, by decide, inb_X0, (xg_mi 107 (by decide +kernel) (by decide +kernel))⟩
theorem fl_X0_31 : xg_fl RX0 31 0 7 := ⟨_, _, _, rfl, by decide, inb_X0, (xg_mi 110 (by decide +kernel) (by decide +kernel))⟩
theorem fl_X0_34 : xg_fl RX0 34 0 8 := ⟨_, _, _, rfl, by decide, inb_X0, (xg_mi 113 (by decide +kernel) (by decide +kernel))⟩
theorem fl_X0_37 : xg_fl RX0 37 0 5 := ⟨_, _, _, rfl, by decide, inb_X0, (xg_mi 102 (by decide +kernel) (by decide +kernel))⟩
theorem fl_X1_9 : xg_fl RX1 9 1 0 := ⟨_, _, _, rfl, by decide, inb_X1, (xg_mi 172 (by decide +kernel) (by decide +kernel))⟩
theorem fl_X1_15 : xg_fl RX1 15 1 1 := ⟨_, _, _, rfl, by decide, inb_X1, (xg_mi 175 (by decide +kernel) (by decide +kernel))⟩
theorem fl_X1_18 : xg_fl RX1 18 1 2 := ⟨_, _, _, rfl, by decide, inb_X1, (xg_mi 178 (by decide +kernel) (by decide +kernel))⟩
theorem fl_X1_21 : xg_fl RX1 21 1 3 := ⟨_, _, _, rfl, by decide, inb_X1, (xg_mi 180 (by decide +kernel) (by decide +kernel))⟩
theorem fl_X1_24 : xg_fl RX1 24 1 4 := ⟨_, _, _, rfl, by decide, inb_X1, (xg_mi 183 (by decide +kernel) (by decide +kernel))⟩
theorem fl_X1_27 : xg_fl RX1 27 1 5 := ⟨_, _, _, rfl, by decide, inb_X1, (xg_mi 185 (by decide +kernel) (by decide +kernel))⟩
theorem fl_X1_34 : xg_fl RX1 34 0 3 := ⟨_, _, _, rfl, by decide, inb_X0, (xg_mi 96 (by decide +kernel) (by decide +kernel))⟩
theorem fl_X1_44 : xg_fl RX1 44 0 1 := ⟨_, _, _, rfl, by decide, inb_X0, (xg_mi 89 (by decide +kernel) (by decide +kernel))⟩
theorem fl_X1_47 : xg_fl RX1 47 0 5 := ⟨_, _, _, rfl, by decide, inb_X0, (xg_mi 105 (by decide +kernel) (by decide +kernel))⟩
theorem fl_X1_57 : xg_fl RX1 57 0 4 := ⟨_, _, _, rfl, by decide, inb_X0, (xg_mi 100 (by decide +kernel) (by decide +kernel))⟩
theorem fl_X1_64 : xg_fl RX1 64 0 2 := ⟨_, _, _, rfl, by decide, inb_X0, (xg_mi 93 (by decide +kernel) (by decide +kernel))⟩
theorem fl_X1_70 : xg_fl RX1 70 0 0 := ⟨_, _, _, rfl, by decide, inb_X0, (xg_mi 86 (by decide +kernel) (by decide +kernel))⟩
theorem fl_X1_77 : xg_fl RX1 77 0 8 := ⟨_, _, _, rfl, by decide, inb_X0, (xg_mi 116 (by decide +kernel) (by decide +kernel))⟩
theorem fl_X2_9 : xg_fl RX2 9 2 4 := ⟨_, _, _, rfl, by decide, inb_X2, (xg_mi 214 (by decide +kernel) (by decide +kernel))⟩
theorem fl_X2_16 : xg_fl RX2 16 2 3 := ⟨_, _, _, rfl, by decide, inb_X2, (xg_mi 213 (by decide +kernel) (by decide +kernel))⟩
theorem fl_X2_20 : xg_fl RX2 20 0 5 := ⟨_, _, _, rfl, by decide, inb_X0, (xg_mi 103 (by decide +kernel) (by decide +kernel))⟩
theorem fl_X2_39 : xg_fl RX2 39 1 0 := ⟨_, _, _, rfl, by decide, inb_X1, (xg_mi 173 (by decide +kernel) (by decide +kernel))⟩
theorem fl_X2_42 : xg_fl RX2 42 1 1 := ⟨_, _, _, rfl, by decide, inb_X1, (xg_mi 176 (by decide +kernel) (by decide +kernel))⟩
theorem fl_X2_45 : xg_fl RX2 45 1 3 := ⟨_, _, _, rfl, by decide, inb_X1, (xg_mi 181 (by decide +kernel) (by decide +kernel))⟩
theorem fl_X2_72 : xg_fl RX2 72 0 3 := ⟨_, _, _, rfl, by decide, inb_X0, (xg_mi 95 (by decide +kernel) (by decide +kernel))⟩
theorem fl_X2_75 : xg_fl RX2 75 0 8 := ⟨_, _, _, rfl, by decide, inb_X0, (xg_mi 114 (by decide +kernel) (by decide +kernel))⟩
theorem fl_X2_78 : xg_fl RX2 78 0 1 := ⟨_, _, _, rfl, by decide, inb_X0, (xg_mi 88 (by decide +kernel) (by decide +kernel))⟩
theorem fl_X3_9 : xg_fl RX3 9 3 0 := ⟨_, _, _, rfl, by decide, inb_X3, (xg_mi 144 (by decide +kernel) (by decide +kernel))⟩
theorem fl_X3_15 : xg_fl RX3 15 3 5 := ⟨_, _, _, rfl, by decide, inb_X3, (xg_mi 152 (by decide +kernel) (by decide +kernel))⟩
theorem fl_X3_18 : xg_fl RX3 18 3 2 := ⟨_, _, _, rfl, by decide, inb_X3, (xg_mi 148 (by decide +kernel) (by decide +kernel))⟩
theorem fl_X3_22 : xg_fl RX3 22 3 4 := ⟨_, _, _, rfl, by decide, inb_X3, (xg_mi 151 (by decide +kernel) (by decide +kernel))⟩
theorem fl_X3_32 : xg_fl RX3 32 3 3 := ⟨_, _, _, rfl, by decide, inb_X3, (xg_mi 150 (by decide +kernel) (by decide +kernel))⟩
theorem fl_X3_35 : xg_fl RX3 35 3 1 := ⟨_, _, _, rfl, by decide, inb_X3, (xg_mi 147 (by decide +kernel) (by decide +kernel))⟩
theorem fl_X3_46 : xg_fl RX3 46 0 5 := ⟨_, _, _, rfl, by decide, inb_X0, (xg_mi 104 (by decide +kernel) (by decide +kernel))⟩
theorem fl_X3_88 : xg_fl RX3 88 0 4 := ⟨_, _, _, rfl, by decide, inb_X0, (xg_mi 99 (by decide +kernel) (by decide +kernel))⟩
theorem fl_X4_10 : xg_fl RX4 10 4 0 := ⟨_, _, _, rfl, by decide, inb_X4, (xg_mi 226 (by decide +kernel) (by decide +kernel))⟩
theorem fl_X4_16 : xg_fl RX4 16 4 1 := ⟨_, _, _, rfl, by decide, inb_X4, (xg_mi 227 (by decide +kernel) (by decide +kernel))⟩
theorem fl_X4_22 : xg_fl RX4 22 4 2 := ⟨_, _, _, rfl, by decide, inb_X4, (xg_mi 228 (by decide +kernel) (by decide +kernel))⟩
theorem fl_X4_29 : xg_fl RX4 29 4 3 := ⟨_, _, _, rfl, by decide, inb_X4, (xg_mi 229 (by decide +kernel) (by decide +kernel))⟩
theorem fl_X4_33 : xg_fl RX4 33 4 4 := ⟨_, _, _, rfl, by decide, inb_X4, (xg_mi 230 (by decide +kernel) (by decide +kernel))⟩
theorem fl_X4_36 : xg_fl RX4 36 4 5 := ⟨_, _, _, rfl, by decide, inb_X4, (xg_mi 231 (by decide +kernel) (by decide +kernel))⟩
theorem fl_X4_40 : xg_fl RX4 40 4 7 := ⟨_, _, _, rfl, by decide, inb_X4, (xg_mi 233 (by decide +kernel) (by decide +kernel))⟩
theorem fl_X4_43 : xg_fl RX4 43 4 9 := ⟨_, _, _, rfl, by decide, inb_X4, (xg_mi 235 (by decide +kernel) (by decide +kernel))⟩
theorem fl_X4_50 : xg_fl RX4 50 4 12 := ⟨_, _, _, rfl, by decide, inb_X4, (xg_mi 238 (by decide +kernel) (by decide +kernel))⟩
theorem fl_X4_54 : xg_fl RX4 54 4 13 := ⟨_, _, _, rfl, by decide, inb_X4, (xg_mi 239 (by decide +kernel) (by decide +kernel))⟩
theorem fl_X4_57 : xg_fl RX4 57 4 14 := ⟨_, _, _, rfl, by decide, inb_X4, (xg_mi 240 (by decide +kernel) (by decide +kernel))⟩
theorem fl_X4_60 : xg_fl RX4 60 4 15 := ⟨_, _, _, rfl, by decide, inb_X4, (xg_mi 241 (by decide +kernel) (by decide +kernel))⟩
theorem fl_X4_63 : xg_fl RX4 63 3 1 := ⟨_, _, _, rfl, by decide, inb_X3, (xg_mi 146 (by decide +kernel) (by decide +kernel))⟩
theorem fl_X4_67 : xg_fl RX4 67 3 0 := ⟨_, _, _, rfl, by decide, inb_X3, (xg_mi 145 (by decide +kernel) (by decide +kernel))⟩
theorem fl_X4_81 : xg_fl RX4 81 3 2 := ⟨_, _, _, rfl, by decide, inb_X3, (xg_mi 149 (by decide +kernel) (by decide +kernel))⟩
theorem fl_X4_88 : xg_fl RX4 88 0 0 := ⟨_, _, _, rfl, by decide, inb_X0, (xg_mi 85 (by decide +kernel) (by decide +kernel))⟩
theorem fl_X4_91 : xg_fl RX4 91 0 1 := ⟨_, _, _, rfl, by decide, inb_X0, (xg_mi 90 (by decide +kernel) (by decide +kernel))⟩
theorem fl_X4_94 : xg_fl RX4 94 0 2 := ⟨_, _, _, rfl, by decide, inb_X0, (xg_mi 92 (by decide +kernel) (by decide +kernel))⟩
theorem fl_X4_97 : xg_fl RX4 97 0 3 := ⟨_, _, _, rfl, by decide, inb_X0, (xg_mi 97 (by decide +kernel) (by decide +kernel))⟩
theorem fl_X4_104 : xg_fl RX4 104 1 4 := ⟨_, _, _, rfl, by decide, inb_X1, (xg_mi 184 (by decide +kernel) (by decide +kernel))⟩
theorem fl_X4_124 : xg_fl RX4 124 0 4 := ⟨_, _, _, rfl, by decide, inb_X0, (xg_mi 101 (by decide +kernel) (by decide +kernel))⟩
theorem fl_X4_130 : xg_fl RX4 130 1 5 := ⟨_, _, _, rfl, by decide, inb_X1, (xg_mi 186 (by decide +kernel) (by decide +kernel))⟩
theorem fl_X4_133 : xg_fl RX4 133 4 11 := ⟨_, _, _, rfl, by decide, inb_X4, (xg_mi 237 (by decide +kernel) (by decide +kernel))⟩
theorem fl_X4_140 : xg_fl RX4 140 1 1 := ⟨_, _, _, rfl, by decide, inb_X1, (xg_mi 177 (by decide +kernel) (by decide +kernel))⟩
theorem fl_X4_150 : xg_fl RX4 150 1 0 := ⟨_, _, _, rfl, by decide, inb_X1, (xg_mi 174 (by decide +kernel) (by decide +kernel))⟩
theorem fl_X4_169 : xg_fl RX4 169 4 6 := ⟨_, _, _, rfl, by decide, inb_X4, (xg_mi 232 (by decide +kernel) (by decide +kernel))⟩
theorem fl_X4_175 : xg_fl RX4 175 4 8 := ⟨_, _, _, rfl, by decide, inb_X4, (xg_mi 234 (by decide +kernel) (by decide +kernel))⟩
theorem fl_X4_182 : xg_fl RX4 182 1 3 := ⟨_, _, _, rfl, by decide, inb_X1, (xg_mi 182 (by decide +kernel) (by decide +kernel))⟩
theorem fl_X4_194 : xg_fl RX4 194 4 10 := ⟨_, _, _, rfl, by decide, inb_X4, (xg_mi 236 (by decide +kernel) (by decide +kernel))⟩
theorem fl_X4_206 : xg_fl RX4 206 2 0 := ⟨_, _, _, rfl, by decide, inb_X2, (xg_mi 208 (by decide +kernel) (by decide +kernel))⟩
theorem fl_X4_209 : xg_fl RX4 209 2 1 := ⟨_, _, _, rfl, by decide, inb_X2, (xg_mi 210 (by decide +kernel) (by decide +kernel))⟩
theorem fl_X4_212 : xg_fl RX4 212 2 2 := ⟨_, _, _, rfl, by decide, inb_X2, (xg_mi 212 (by decide +kernel) (by decide +kernel))⟩
theorem fl_X4_215 : xg_fl RX4 215 0 5 := ⟨_, _, _, rfl, by decide, inb_X0, (xg_mi 106 (by decide +kernel) (by decide +kernel))⟩
theorem fl_X4_221 : xg_fl RX4 221 4 16 := ⟨_, _, _, rfl, by decide, inb_X4, (xg_mi 242 (by decide +kernel) (by decide +kernel))⟩
theorem fl_X4_248 : xg_fl RX4 248 0 6 := ⟨_, _, _, rfl, by decide, inb_X0, (xg_mi 109 (by decide +kernel) (by decide +kernel))⟩
theorem fl_X4_251 : xg_fl RX4 251 0 7 := ⟨_, _, _, rfl, by decide, inb_X0, (xg_mi 112 (by decide +kernel) (by decide +kernel))⟩
theorem fl_X4_254 : xg_fl RX4 254 0 8 := ⟨_, _, _, rfl, by decide, inb_X0, (xg_mi 117 (by decide +kernel) (by decide +kernel))⟩
theorem fl_X4_257 : xg_fl RX4 257 1 2 := ⟨_, _, _, rfl, by decide, inb_X1, (xg_mi 179 (by decide +kernel) (by decide +kernel))⟩
theorem fl_X5_7 : xg_fl RX5 7 5 1 := ⟨_, _, _, rfl, by decide, inb_X5, (xg_mi 708 (by decide +kernel) (by decide +kernel))⟩
theorem fl_X5_13 : xg_fl RX5 13 5 2 := ⟨_, _, _, rfl, by decide, inb_X5, (xg_mi 709 (by decide +kernel) (by decide +kernel))⟩
theorem fl_X5_16 : xg_fl RX5 16 5 3 := ⟨_, _, _, rfl, by decide, inb_X5, (xg_mi 710 (by decide +kernel) (by decide +kernel))⟩
theorem fl_X5_20 : xg_fl RX5 20 5 4 := ⟨_, _, _, rfl, by decide, inb_X5, (xg_mi 711 (by decide +kernel) (by decide +kernel))⟩
theorem fl_X5_23 : xg_fl RX5 23 5 5 := ⟨_, _, _, rfl, by decide, inb_X5, (xg_mi 712 (by decide +kernel) (by decide +kernel))⟩
theorem fl_X5_26 : xg_fl RX5 26 5 7 := ⟨_, _, _, rfl, by decide, inb_X5, (xg_mi 714 (by decide +kernel) (by decide +kernel))⟩
theorem fl_X5_29 : xg_fl RX5 29 5 16 := ⟨_, _, _, rfl, by decide, inb_X5, (xg_mi 723 (by decide +kernel) (by decide +kernel))⟩
theorem fl_X5_32 : xg_fl RX5 32 5 17 := ⟨_, _, _, rfl, by decide, inb_X5, (xg_mi 724 (by decide +kernel) (by decide +kernel))⟩
theorem fl_X5_35 : xg_fl RX5 35 5 18 := ⟨_, _, _, rfl, by decide, inb_X5, (xg_mi 725 (by decide +kernel) (by decide +kernel))⟩
theorem fl_X5_38 : xg_fl RX5 38 5 19 := ⟨_, _, _, rfl, by decide, inb_X5, (xg_mi 726 (by decide +kernel) (by decide +kernel))⟩
theorem fl_X5_41 : xg_fl RX5 41 5 20 := ⟨_, _, _, rfl, by decide, inb_X5, (xg_mi 727 (by decide +kernel) (by decide +kernel))⟩
theorem fl_X5_45 : xg_fl RX5 45 5 21 := ⟨_, _, _, rfl, by decide, inb_X5, (xg_mi 728 (by decide +kernel) (by decide +kernel))⟩
theorem fl_X5_48 : xg_fl RX5 48 5 23 := ⟨_, _, _, rfl, by decide, inb_X5, (xg_mi 730 (by decide +kernel) (by decide +kernel))⟩
theorem fl_X5_51 : xg_fl RX5 51 5 25 := ⟨_, _, _, rfl, by decide, inb_X5, (xg_mi 732 (by decide +kernel) (by decide +kernel))⟩
theorem fl_X5_54 : xg_fl RX5 54 5 27 := ⟨_, _, _, rfl, by decide, inb_X5, (xg_mi 734 (by decide +kernel) (by decide +kernel))⟩
theorem fl_X5_57 : xg_fl RX5 57 5 29 := ⟨_, _, _, rfl, by decide, inb_X5, (xg_mi 736 (by decide +kernel) (by decide +kernel))⟩
theorem fl_X5_60 : xg_fl RX5 60 5 30 := ⟨_, _, _, rfl, by decide, inb_X5, (xg_mi 737 (by decide +kernel) (by decide +kernel))⟩
theorem fl_X5_63 : xg_fl RX5 63 5 31 := ⟨_, _, _, rfl, by decide, inb_X5, (xg_mi 738 (by decide +kernel) (by decide +kernel))⟩
theorem fl_X5_72 : xg_fl RX5 72 5 0 := ⟨_, _, _, rfl, by decide, inb_X5, (xg_mi 707 (by decide +kernel) (by decide +kernel))⟩
theorem fl_X5_75 : xg_fl RX5 75 5 22 := ⟨_, _, _, rfl, by decide, inb_X5, (xg_mi 729 (by decide +kernel) (by decide +kernel))⟩
theorem fl_X5_78 : xg_fl RX5 78 5 24 := ⟨_, _, _, rfl, by decide, inb_X5, (xg_mi 731 (by decide +kernel) (by decide +kernel))⟩
theorem fl_X5_81 : xg_fl RX5 81 5 26 := ⟨_, _, _, rfl, by decide, inb_X5, (xg_mi 733 (by decide +kernel) (by decide +kernel))⟩
theorem fl_X5_84 : xg_fl RX5 84 5 28 := ⟨_, _, _, rfl, by decide, inb_X5, (xg_mi 735 (by decide +kernel) (by decide +kernel))⟩
theorem fl_X5_91 : xg_fl RX5 91 5 6 := ⟨_, _, _, rfl, by decide, inb_X5, (xg_mi 713 (by decide +kernel) (by decide +kernel))⟩
theorem fl_X5_94 : xg_fl RX5 94 5 8 := ⟨_, _, _, rfl, by decide, inb_X5, (xg_mi 715 (by decide +kernel) (by decide +kernel))⟩
theorem fl_X5_97 : xg_fl RX5 97 5 9 := ⟨_, _, _, rfl, by decide, inb_X5, (xg_mi 716 (by decide +kernel) (by decide +kernel))⟩
theorem fl_X5_100 : xg_fl RX5 100 5 11 := ⟨_, _, _, rfl, by decide, inb_X5, (xg_mi 718 (by decide +kernel) (by decide +kernel))⟩
theorem fl_X5_103 : xg_fl RX5 103 5 12 := ⟨_, _, _, rfl, by decide, inb_X5, (xg_mi 719 (by decide +kernel) (by decide +kernel))⟩
theorem fl_X5_108 : xg_fl RX5 108 5 10 := ⟨_, _, _, rfl, by decide, inb_X5, (xg_mi 717 (by decide +kernel) (by decide +kernel))⟩
theorem fl_X5_122 : xg_fl RX5 122 5 13 := ⟨_, _, _, rfl, by decide, inb_X5, (xg_mi 720 (by decide +kernel) (by decide +kernel))⟩
theorem fl_X5_132 : xg_fl RX5 132 5 15 := ⟨_, _, _, rfl, by decide, inb_X5, (xg_mi 722 (by decide +kernel) (by decide +kernel))⟩
theorem fl_X5_164 : xg_fl RX5 164 5 14 := ⟨_, _, _, rfl, by decide, inb_X5, (xg_mi 721 (by decide +kernel) (by decide +kernel))⟩
theorem fl_X5_253 : xg_fl RX5 253 5 32 := ⟨_, _, _, rfl, by decide, inb_X5, (xg_mi 739 (by decide +kernel) (by decide +kernel))⟩
theorem fp_X0_27 : xg_fp RX0 27 0 6 .int := ⟨_, _, _, tyX0, rfl, by decide, inb_X0, (xg_mi 107 (by decide +kernel) (by decide +kernel)), tyX0_ok, nmX0, rfl, by decide +kernel⟩
theorem fp_X0_31 : xg_fp RX0 31 0 7 .int := ⟨_, _, _, tyX0, rfl, by decide, inb_X0, (xg_mi 110 (by decide +kernel) (by decide +kernel)), tyX0_ok, nmX0, rfl, by decide +kernel⟩
theorem fp_X0_34 : xg_fp RX0 34 0 8 .int := ⟨_, _, _, tyX0, rfl, by decide, inb_X0, (xg_mi 113 (by decide +kernel) (by decide +kernel)), tyX0_ok, nmX0, rfl, by decide +kernel⟩
theorem fp_X0_37 : xg_fp RX0 37 0 5 .int := ⟨_, _, _, tyX0, rfl, by decide, inb_X0, (xg_mi 102 (by decide +kernel) (by decide +kernel)), tyX0_ok, nmX0, rfl, by decide +kernel⟩
theorem fp_X1_9 : xg_fp RX1 9 1 0 .int := ⟨_, _, _, tyX1, rfl, by decide, inb_X1, (xg_mi 172 (by decide +kernel) (by decide +kernel)), tyX1_ok, nmX1, rfl, by decide +kernel⟩
theorem fp_X1_15 : xg_fp RX1 15 1 1 .int := ⟨_, _, _, tyX1, rfl, by decide, inb_X1, (xg_mi 175 (by decide +kernel) (by decide +kernel)), tyX1_ok, nmX1, rfl, by decide +kernel⟩
theorem fp_X1_18 : xg_fp RX1 18 1 2 .int := ⟨_, _, _, tyX1, rfl, by decide, inb_X1, (xg_mi 178 (by decide +kernel) (by decide +kernel)), tyX1_ok, nmX1, rfl, by decide +kernel⟩
theorem fp_X1_21 : xg_fp RX1 21 1 3 .int := ⟨_, _, _, tyX1, rfl, by decide, inb_X1, (xg_mi 180 (by decide +kernel) (by decide +kernel)), tyX1_ok, nmX1, rfl, by decide +kernel⟩
theorem fp_X1_24 : xg_fp RX1 24 1 4 .int := ⟨_, _, _, tyX1, rfl, by decide, inb_X1, (xg_mi 183 (by decide +kernel) (by decide +kernel)), tyX1_ok, nmX1, rfl, by decide +kernel⟩
theorem fp_X1_27 : xg_fp RX1 27 1 5 .int := ⟨_, _, _, tyX1, rfl, by decide, inb_X1, (xg_mi 185 (by decide +kernel) (by decide +kernel)), tyX1_ok, nmX1, rfl, by decide +kernel⟩
theorem fp_X2_16 : xg_fp RX2 16 2 3 .int := ⟨_, _, _, tyX2, rfl, by decide, inb_X2, (xg_mi 213 (by decide +kernel) (by decide +kernel)), tyX2_ok, nmX2, rfl, by decide +kernel⟩
theorem fp_X2_81 : xg_fp RX2 81 2 0 .int := ⟨_, _, _, tyX2, rfl, by decide, inb_X2, (xg_mi 207 (by decide +kernel) (by decide +kernel)), tyX2_ok, nmX2, rfl, by decide +kernel⟩
theorem fp_X2_84 : xg_fp RX2 84 2 1 .int := ⟨_, _, _, tyX2, rfl, by decide, inb_X2, (xg_mi 209 (by decide +kernel) (by decide +kernel)), tyX2_ok, nmX2, rfl, by decide +kernel⟩
theorem fp_X2_87 : xg_fp RX2 87 2 2 .int := ⟨_, _, _, tyX2, rfl, by decide, inb_X2, (xg_mi 211 (by decide +kernel) (by decide +kernel)), tyX2_ok, nmX2, rfl, by decide +kernel⟩
theorem fp_X3_18 : xg_fp RX3 18 3 2 .int := ⟨_, _, _, tyX3, rfl, by decide, inb_X3, (xg_mi 148 (by decide +kernel) (by decide +kernel)), tyX3_ok, nmX3, rfl, by decide +kernel⟩
theorem fp_X3_22 : xg_fp RX3 22 3 4 .int := ⟨_, _, _, tyX3, rfl, by decide, inb_X3, (xg_mi 151 (by decide +kernel) (by decide +kernel)), tyX3_ok, nmX3, rfl, by decide +kernel⟩
theorem fp_X3_32 : xg_fp RX3 32 3 3 .int := ⟨_, _, _, tyX3, rfl, by decide, inb_X3, (xg_mi 150 (by decide +kernel) (by decide +kernel)), tyX3_ok, nmX3, rfl, by decide +kernel⟩
theorem fp_X3_46 : xg_fp RX3 46 0 5 .int := ⟨_, _, _, tyX0, rfl, by decide, inb_X0, (xg_mi 104 (by decide +kernel) (by decide +kernel)), tyX0_ok, nmX0, rfl, by decide +kernel⟩
theorem fp_X3_72 : xg_fp RX3 72 0 6 .int := ⟨_, _, _, tyX0, rfl, by decide, inb_X0, (xg_mi 108 (by decide +kernel) (by decide +kernel)), tyX0_ok, nmX0, rfl, by decide +kernel⟩
theorem fp_X3_75 : xg_fp RX3 75 0 7 .int := ⟨_, _, _, tyX0, rfl, by decide, inb_X0, (xg_mi 111 (by decide +kernel) (by decide +kernel)), tyX0_ok, nmX0, rfl, by decide +kernel⟩
theorem fp_X3_78 : xg_fp RX3 78 0 8 .int := ⟨_, _, _, tyX0, rfl, by decide, inb_X0, (xg_mi 115 (by decide +kernel) (by decide +kernel)), tyX0_ok, nmX0, rfl, by decide +kernel⟩
theorem fp_X4_63 : xg_fp RX4 63 3 1 .int := ⟨_, _, _, tyX3, rfl, by decide, inb_X3, (xg_mi 146 (by decide +kernel) (by decide +kernel)), tyX3_ok, nmX3, rfl, by decide +kernel⟩
theorem fp_X4_104 : xg_fp RX4 104 1 4 .int := ⟨_, _, _, tyX1, rfl, by decide, inb_X1, (xg_mi 184 (by decide +kernel) (by decide +kernel)), tyX1_ok, nmX1, rfl, by decide +kernel⟩
theorem fp_X4_133 : xg_fp RX4 133 4 11 .int := ⟨_, _, _, tyX4, rfl, by decide, inb_X4, (xg_mi 237 (by decide +kernel) (by decide +kernel)), tyX4_ok, nmX4, rfl, by decide +kernel⟩
theorem fp_X4_140 : xg_fp RX4 140 1 1 .int := ⟨_, _, _, tyX1, rfl, by decide, inb_X1, (xg_mi 177 (by decide +kernel) (by decide +kernel)), tyX1_ok, nmX1, rfl, by decide +kernel⟩
theorem fp_X4_169 : xg_fp RX4 169 4 6 .int := ⟨_, _, _, tyX4, rfl, by decide, inb_X4, (xg_mi 232 (by decide +kernel) (by decide +kernel)), tyX4_ok, nmX4, rfl, by decide +kernel⟩
theorem fp_X4_175 : xg_fp RX4 175 4 8 .int := ⟨_, _, _, tyX4, rfl, by decide, inb_X4, (xg_mi 234 (by decide +kernel) (by decide +kernel)), tyX4_ok, nmX4, rfl, by decide +kernel⟩
theorem fp_X4_182 : xg_fp RX4 182 1 3 .int := ⟨_, _, _, tyX1, rfl, by decide, inb_X1, (xg_mi 182 (by decide +kernel) (by decide +kernel)), tyX1_ok, nmX1, rfl, by decide +kernel⟩
theorem fp_X4_194 : xg_fp RX4 194 4 10 .int := ⟨_, _, _, tyX4, rfl, by decide, inb_X4, (xg_mi 236 (by decide +kernel) (by decide +kernel)), tyX4_ok, nmX4, rfl, by decide +kernel⟩
theorem fp_X4_221 : xg_fp RX4 221 4 16 .int := ⟨_, _, _, tyX4, rfl, by decide, inb_X4, (xg_mi 242 (by decide +kernel) (by decide +kernel)), tyX4_ok, nmX4, rfl, by decide +kernel⟩
theorem fp_X5_16 : xg_fp RX5 16 5 3 .int := ⟨_, _, _, tyX5, rfl, by decide, inb_X5, (xg_mi 710 (by decide +kernel) (by decide +kernel)), tyX5_ok, nmX5, rfl, by decide +kernel⟩
theorem fp_X5_20 : xg_fp RX5 20 5 4 .int := ⟨_, _, _, tyX5, rfl, by decide, inb_X5, (xg_mi 711 (by decide +kernel) (by decide +kernel)), tyX5_ok, nmX5, rfl, by decide +kernel⟩
theorem fp_X5_23 : xg_fp RX5 23 5 5 .int := ⟨_, _, _, tyX5, rfl, by decide, inb_X5, (xg_mi 712 (by decide +kernel) (by decide +kernel)), tyX5_ok, nmX5, rfl, by decide +kernel⟩
theorem fp_X5_72 : xg_fp RX5 72 5 0 .int := ⟨_, _, _, tyX5, rfl, by decide, inb_X5, (xg_mi 707 (by decide +kernel) (by decide +kernel)), tyX5_ok, nmX5, rfl, by decide +kernel⟩
theorem fp_X5_75 : xg_fp RX5 75 5 22 .int := ⟨_, _, _, tyX5, rfl, by decide, inb_X5, (xg_mi 729 (by decide +kernel) (by decide +kernel)), tyX5_ok, nmX5, rfl, by decide +kernel⟩
theorem fp_X5_78 : xg_fp RX5 78 5 24 .int := ⟨_, _, _, tyX5, rfl, by decide, inb_X5, (xg_mi 731 (by decide +kernel) (by decide +kernel)), tyX5_ok, nmX5, rfl, by decide +kernel⟩
theorem fp_X5_81 : xg_fp RX5 81 5 26 .int := ⟨_, _, _, tyX5, rfl, by decide, inb_X5, (xg_mi 733 (by decide +kernel) (by decide +kernel)), tyX5_ok, nmX5, rfl, by decide +kernel⟩
theorem fp_X5_84 : xg_fp RX5 84 5 28 .int := ⟨_, _, _, tyX5, rfl, by decide, inb_X5, (xg_mi 735 (by decide +kernel) (by decide +kernel)), tyX5_ok, nmX5, rfl, by decide +kernel⟩
theorem fp_X5_91 : xg_fp RX5 91 5 6 .int := ⟨_, _, _, tyX5, rfl, by decide, inb_X5, (xg_mi 713 (by decide +kernel) (by decide +kernel)), tyX5_ok, nmX5, rfl, by decide +kernel⟩
theorem fp_X5_94 : xg_fp RX5 94 5 8 .int := ⟨_, _, _, tyX5, rfl, by decide, inb_X5, (xg_mi 715 (by decide +kernel) (by decide +kernel)), tyX5_ok, nmX5, rfl, by decide +kernel⟩
theorem fp_X5_97 : xg_fp RX5 97 5 9 .int := ⟨_, _, _, tyX5, rfl, by decide, inb_X5, (xg_mi 716 (by decide +kernel) (by decide +kernel)), tyX5_ok, nmX5, rfl, by decide +kernel⟩
theorem fp_X5_100 : xg_fp RX5 100 5 11 .int := ⟨_, _, _, tyX5, rfl, by decide, inb_X5, (xg_mi 718 (by decide +kernel) (by decide +kernel)), tyX5_ok, nmX5, rfl, by decide +kernel⟩
theorem fp_X5_103 : xg_fp RX5 103 5 12 .int := ⟨_, _, _, tyX5, rfl, by decide, inb_X5, (xg_mi 719 (by decide +kernel) (by decide +kernel)), tyX5_ok, nmX5, rfl, by decide +kernel⟩
theorem fp_X5_108 : xg_fp RX5 108 5 10 .long := ⟨_, _, _, tyX5, rfl, by decide, inb_X5, (xg_mi 717 (by decide +kernel) (by decide +kernel)), tyX5_ok, nmX5, rfl, by decide +kernel⟩
theorem fp_X5_122 : xg_fp RX5 122 5 13 .int := ⟨_, _, _, tyX5, rfl, by decide, inb_X5, (xg_mi 720 (by decide +kernel) (by decide +kernel)), tyX5_ok, nmX5, rfl, by decide +kernel⟩
theorem fp_X5_132 : xg_fp RX5 132 5 15 .int := ⟨_, _, _, tyX5, rfl, by decide, inb_X5, (xg_mi 722 (by decide +kernel) (by decide +kernel)), tyX5_ok, nmX5, rfl, by decide +kernel⟩
theorem fp_X5_164 : xg_fp RX5 164 5 14 .int := ⟨_, _, _, tyX5, rfl, by decide, inb_X5, (xg_mi 721 (by decide +kernel) (by decide +kernel)), tyX5_ok, nmX5, rfl, by decide +kernel⟩
theorem fp_X5_253 : xg_fp RX5 253 5 32 .int := ⟨_, _, _, tyX5, rfl, by decide, inb_X5, (xg_mi 739 (by decide +kernel) (by decide +kernel)), tyX5_ok, nmX5, rfl, by decide +kernel⟩
theorem cw_J0_335 : ∀ w ∈ [Cond.methodLink RJ0 335 mJ0_coder_7d493.1, .instanceMethod mJ0_coder_7d493.1, .selects mJ0_coder_7d493.1.cls mJ0_coder_7d493.1 mJ0_coder_7d493.1, .initialized mJ0_coder_7d493.1.cls, xg_cd mJ0_coder_7d493], w ∈ xg_tb := List.forall_mem_cons.mpr ⟨(xg_mi 342 (by decide +kernel) (by decide +kernel)), List.forall_mem_cons.mpr ⟨(xg_mi 343 (by decide +kernel) (by decide +kernel)), List.forall_mem_cons.mpr ⟨(xg_mi 344 (by decide +kernel) (by decide +kernel)), List.forall_mem_cons.mpr ⟨(xg_mi 64 (by decide +kernel) (by decide +kernel)), List.forall_mem_cons.mpr ⟨(xg_mi 345 (by decide +kernel) (by decide +kernel)), fun _ h => absurd h List.not_mem_nil⟩⟩⟩⟩⟩
theorem cw_J0_492 : ∀ w ∈ [Cond.methodLink RJ0 492 mJ0_isLatin1_aae02.1, .instanceMethod mJ0_isLatin1_aae02.1, .selects mJ0_isLatin1_aae02.1.cls mJ0_isLatin1_aae02.1 mJ0_isLatin1_aae02.1, .initialized mJ0_isLatin1_aae02.1.cls, xg_cd mJ0_isLatin1_aae02], w ∈ xg_tb := List.forall_mem_cons.mpr ⟨(xg_mi 352 (by decide +kernel) (by decide +kernel)), List.forall_mem_cons.mpr ⟨(xg_mi 353 (by decide +kernel) (by decide +kernel)), List.forall_mem_cons.mpr ⟨(xg_mi 354 (by decide +kernel) (by decide +kernel)), List.forall_mem_cons.mpr ⟨(xg_mi 64 (by decide +kernel) (by decide +kernel)), List.forall_mem_cons.mpr ⟨(xg_mi 355 (by decide +kernel) (by decide +kernel)), fun _ h => absurd h List.not_mem_nil⟩⟩⟩⟩⟩
theorem cw_J0_495 : ∀ w ∈ [Cond.methodLink RJ0 495 mJ1_charAt_3b067.1, .static mJ1_charAt_3b067.1, .initialized mJ1_charAt_3b067.1.cls, xg_cd mJ1_charAt_3b067], w ∈ xg_tb := List.forall_mem_cons.mpr ⟨(xg_mi 356 (by decide +kernel) (by decide +kernel)), List.forall_mem_cons.mpr ⟨(xg_mi 357 (by decide +kernel) (by decide +kernel)), List.forall_mem_cons.mpr ⟨(xg_mi 65 (by decide +kernel) (by decide +kernel)), List.forall_mem_cons.mpr ⟨(xg_mi 358 (by decide +kernel) (by decide +kernel)), fun _ h => absurd h List.not_mem_nil⟩⟩⟩⟩
theorem cn_X1_30 : Cond.methodLinkNest RX1 30 mX4_hasBit.1 RX4 ∈ xk_nest := by decide +kernel
theorem cw_X1_30 : ∀ w ∈ [Cond.static mX4_hasBit.1, .initialized mX4_hasBit.1.cls, xg_cd mX4_hasBit], w ∈ xg_tb := List.forall_mem_cons.mpr ⟨(xg_mi 439 (by decide +kernel) (by decide +kernel)), List.forall_mem_cons.mpr ⟨(xg_mi 58 (by decide +kernel) (by decide +kernel)), List.forall_mem_cons.mpr ⟨(xg_mi 440 (by decide +kernel) (by decide +kernel)), fun _ h => absurd h List.not_mem_nil⟩⟩⟩
theorem cw_X1_40 : ∀ w ∈ [Cond.methodLink RX1 40 mX1_goldOf.1, .instanceMethod mX1_goldOf.1, .selects mX1_goldOf.1.cls mX1_goldOf.1 mX1_goldOf.1, .initialized mX1_goldOf.1.cls, xg_cd mX1_goldOf], w ∈ xg_tb := List.forall_mem_cons.mpr ⟨(xg_mi 450 (by decide +kernel) (by decide +kernel)), List.forall_mem_cons.mpr ⟨(xg_mi 435 (by decide +kernel) (by decide +kernel)), List.forall_mem_cons.mpr ⟨(xg_mi 436 (by decide +kernel) (by decide +kernel)), List.forall_mem_cons.mpr ⟨(xg_mi 61 (by decide +kernel) (by decide +kernel)), List.forall_mem_cons.mpr ⟨(xg_mi 437 (by decide +kernel) (by decide +kernel)), fun _ h => absurd h List.not_mem_nil⟩⟩⟩⟩⟩
theorem cw_X1_50 : ∀ w ∈ [Cond.methodLink RX1 50 mX1_weighs.1, .instanceMethod mX1_weighs.1, .selects mX1_weighs.1.cls mX1_weighs.1 mX1_weighs.1, .initialized mX1_weighs.1.cls, xg_cd mX1_weighs], w ∈ xg_tb := List.forall_mem_cons.mpr ⟨(xg_mi 472 (by decide +kernel) (by decide +kernel)), List.forall_mem_cons.mpr ⟨(xg_mi 461 (by decide +kernel) (by decide +kernel)), List.forall_mem_cons.mpr ⟨(xg_mi 462 (by decide +kernel) (by decide +kernel)), List.forall_mem_cons.mpr ⟨(xg_mi 61 (by decide +kernel) (by decide +kernel)), List.forall_mem_cons.mpr ⟨(xg_mi 463 (by decide +kernel) (by decide +kernel)), fun _ h => absurd h List.not_mem_nil⟩⟩⟩⟩⟩
theorem cw_X1_54 : ∀ w ∈ [Cond.methodLink RX1 54 mX1_loadOf.1, .instanceMethod mX1_loadOf.1, .selects mX1_loadOf.1.cls mX1_loadOf.1 mX1_loadOf.1, .initialized mX1_loadOf.1.cls, xg_cd mX1_loadOf], w ∈ xg_tb := List.forall_mem_cons.mpr ⟨(xg_mi 510 (by decide +kernel) (by decide +kernel)), List.forall_mem_cons.mpr ⟨(xg_mi 469 (by decide +kernel) (by decide +kernel)), List.forall_mem_cons.mpr ⟨(xg_mi 470 (by decide +kernel) (by decide +kernel)), List.forall_mem_cons.mpr ⟨(xg_mi 61 (by decide +kernel) (by decide +kernel)), List.forall_mem_cons.mpr ⟨(xg_mi 471 (by decide +kernel) (by decide +kernel)), fun _ h => absurd h List.not_mem_nil⟩⟩⟩⟩⟩
theorem cw_X1_60 : ∀ w ∈ [Cond.methodLink RX1 60 mX1_isLost.1, .instanceMethod mX1_isLost.1, .selects mX1_isLost.1.cls mX1_isLost.1 mX1_isLost.1, .initialized mX1_isLost.1.cls, xg_cd mX1_isLost], w ∈ xg_tb := List.forall_mem_cons.mpr ⟨(xg_mi 446 (by decide +kernel) (by decide +kernel)), List.forall_mem_cons.mpr ⟨(xg_mi 447 (by decide +kernel) (by decide +kernel)), List.forall_mem_cons.mpr ⟨(xg_mi 448 (by decide +kernel) (by decide +kernel)), List.forall_mem_cons.mpr ⟨(xg_mi 61 (by decide +kernel) (by decide +kernel)), List.forall_mem_cons.mpr ⟨(xg_mi 449 (by decide +kernel) (by decide +kernel)), fun _ h => absurd h List.not_mem_nil⟩⟩⟩⟩⟩
theorem cw_X1_67 : ∀ w ∈ [Cond.methodLink RX1 67 mX1_priceOf.1, .instanceMethod mX1_priceOf.1, .selects mX1_priceOf.1.cls mX1_priceOf.1 mX1_priceOf.1, .initialized mX1_priceOf.1.cls, xg_cd mX1_priceOf], w ∈ xg_tb := List.forall_mem_cons.mpr ⟨(xg_mi 567 (by decide +kernel) (by decide +kernel)), List.forall_mem_cons.mpr ⟨(xg_mi 443 (by decide +kernel) (by decide +kernel)), List.forall_mem_cons.mpr ⟨(xg_mi 444 (by decide +kernel) (by decide +kernel)), List.forall_mem_cons.mpr ⟨(xg_mi 61 (by decide +kernel) (by decide +kernel)), List.forall_mem_cons.mpr ⟨(xg_mi 445 (by decide +kernel) (by decide +kernel)), fun _ h => absurd h List.not_mem_nil⟩⟩⟩⟩⟩
theorem cn_X1_73 : Cond.methodLinkNest RX1 73 mX4_handIn.1 RX4 ∈ xk_nest := by decide +kernel
theorem cw_X1_73 : ∀ w ∈ [Cond.static mX4_handIn.1, .initialized mX4_handIn.1.cls, xg_cd mX4_handIn], w ∈ xg_tb := List.forall_mem_cons.mpr ⟨(xg_mi 482 (by decide +kernel) (by decide +kernel)), List.forall_mem_cons.mpr ⟨(xg_mi 58 (by decide +kernel) (by decide +kernel)), List.forall_mem_cons.mpr ⟨(xg_mi 483 (by decide +kernel) (by decide +kernel)), fun _ h => absurd h List.not_mem_nil⟩⟩⟩
theorem cn_X2_25 : Cond.methodLinkNest RX2 25 mX4_hasBit.1 RX4 ∈ xk_nest := by decide +kernel
theorem cw_X2_25 : ∀ w ∈ [Cond.static mX4_hasBit.1, .initialized mX4_hasBit.1.cls, xg_cd mX4_hasBit], w ∈ xg_tb := List.forall_mem_cons.mpr ⟨(xg_mi 439 (by decide +kernel) (by decide +kernel)), List.forall_mem_cons.mpr ⟨(xg_mi 58 (by decide +kernel) (by decide +kernel)), List.forall_mem_cons.mpr ⟨(xg_mi 440 (by decide +kernel) (by decide +kernel)), fun _ h => absurd h List.not_mem_nil⟩⟩⟩
theorem cw_X2_29 : ∀ w ∈ [Cond.methodLink RX2 29 mX1_isLost.1, .instanceMethod mX1_isLost.1, .selects mX1_isLost.1.cls mX1_isLost.1 mX1_isLost.1, .initialized mX1_isLost.1.cls, xg_cd mX1_isLost], w ∈ xg_tb := List.forall_mem_cons.mpr ⟨(xg_mi 604 (by decide +kernel) (by decide +kernel)), List.forall_mem_cons.mpr ⟨(xg_mi 447 (by decide +kernel) (by decide +kernel)), List.forall_mem_cons.mpr ⟨(xg_mi 448 (by decide +kernel) (by decide +kernel)), List.forall_mem_cons.mpr ⟨(xg_mi 61 (by decide +kernel) (by decide +kernel)), List.forall_mem_cons.mpr ⟨(xg_mi 449 (by decide +kernel) (by decide +kernel)), fun _ h => absurd h List.not_mem_nil⟩⟩⟩⟩⟩
theorem cw_X2_35 : ∀ w ∈ [Cond.methodLink RX2 35 mX1_toolOf.1, .instanceMethod mX1_toolOf.1, .selects mX1_toolOf.1.cls mX1_toolOf.1 mX1_toolOf.1, .initialized mX1_toolOf.1.cls, xg_cd mX1_toolOf], w ∈ xg_tb := List.forall_mem_cons.mpr ⟨(xg_mi 605 (by decide +kernel) (by decide +kernel)), List.forall_mem_cons.mpr ⟨(xg_mi 474 (by decide +kernel) (by decide +kernel)), List.forall_mem_cons.mpr ⟨(xg_mi 475 (by decide +kernel) (by decide +kernel)), List.forall_mem_cons.mpr ⟨(xg_mi 61 (by decide +kernel) (by decide +kernel)), List.forall_mem_cons.mpr ⟨(xg_mi 476 (by decide +kernel) (by decide +kernel)), fun _ h => absurd h List.not_mem_nil⟩⟩⟩⟩⟩
theorem cw_X2_48 : ∀ w ∈ [Cond.methodLink RX2 48 mX2_search.1, .instanceMethod mX2_search.1, .selects mX2_search.1.cls mX2_search.1 mX2_search.1, .initialized mX2_search.1.cls, xg_cd mX2_search], w ∈ xg_tb := List.forall_mem_cons.mpr ⟨(xg_mi 606 (by decide +kernel) (by decide +kernel)), List.forall_mem_cons.mpr ⟨(xg_mi 608 (by decide +kernel) (by decide +kernel)), List.forall_mem_cons.mpr ⟨(xg_mi 14 (by decide +kernel) (by decide +kernel)), List.forall_mem_cons.mpr ⟨(xg_mi 62 (by decide +kernel) (by decide +kernel)), List.forall_mem_cons.mpr ⟨(xg_mi 609 (by decide +kernel) (by decide +kernel)), fun _ h => absurd h List.not_mem_nil⟩⟩⟩⟩⟩
theorem cw_X2_52 : ∀ w ∈ [Cond.methodLink RX2 52 mJ6_bitCount_0f7a4.1, .static mJ6_bitCount_0f7a4.1, .initialized mJ6_bitCount_0f7a4.1.cls, xg_cd mJ6_bitCount_0f7a4], w ∈ xg_tb := List.forall_mem_cons.mpr ⟨(xg_mi 610 (by decide +kernel) (by decide +kernel)), List.forall_mem_cons.mpr ⟨(xg_mi 585 (by decide +kernel) (by decide +kernel)), List.forall_mem_cons.mpr ⟨(xg_mi 68 (by decide +kernel) (by decide +kernel)), List.forall_mem_cons.mpr ⟨(xg_mi 586 (by decide +kernel) (by decide +kernel)), fun _ h => absurd h List.not_mem_nil⟩⟩⟩⟩
theorem cw_X2_58 : ∀ w ∈ [Cond.methodLink RX2 58 mX2_rankOf.1, .static mX2_rankOf.1, .initialized mX2_rankOf.1.cls, xg_cd mX2_rankOf], w ∈ xg_tb := List.forall_mem_cons.mpr ⟨(xg_mi 611 (by decide +kernel) (by decide +kernel)), List.forall_mem_cons.mpr ⟨(xg_mi 612 (by decide +kernel) (by decide +kernel)), List.forall_mem_cons.mpr ⟨(xg_mi 62 (by decide +kernel) (by decide +kernel)), List.forall_mem_cons.mpr ⟨(xg_mi 613 (by decide +kernel) (by decide +kernel)), fun _ h => absurd h List.not_mem_nil⟩⟩⟩⟩
theorem cw_X2_62 : ∀ w ∈ [Cond.methodLink RX2 62 mX2_take.1, .instanceMethod mX2_take.1, .selects mX2_take.1.cls mX2_take.1 mX2_take.1, .initialized mX2_take.1.cls, xg_cd mX2_take], w ∈ xg_tb := List.forall_mem_cons.mpr ⟨(xg_mi 614 (by decide +kernel) (by decide +kernel)), List.forall_mem_cons.mpr ⟨(xg_mi 616 (by decide +kernel) (by decide +kernel)), List.forall_mem_cons.mpr ⟨(xg_mi 15 (by decide +kernel) (by decide +kernel)), List.forall_mem_cons.mpr ⟨(xg_mi 62 (by decide +kernel) (by decide +kernel)), List.forall_mem_cons.mpr ⟨(xg_mi 617 (by decide +kernel) (by decide +kernel)), fun _ h => absurd h List.not_mem_nil⟩⟩⟩⟩⟩
theorem cw_X2_66 : ∀ w ∈ [Cond.methodLink RX2 66 mX2_firstOf.1, .static mX2_firstOf.1, .initialized mX2_firstOf.1.cls, xg_cd mX2_firstOf], w ∈ xg_tb := List.forall_mem_cons.mpr ⟨(xg_mi 618 (by decide +kernel) (by decide +kernel)), List.forall_mem_cons.mpr ⟨(xg_mi 619 (by decide +kernel) (by decide +kernel)), List.forall_mem_cons.mpr ⟨(xg_mi 62 (by decide +kernel) (by decide +kernel)), List.forall_mem_cons.mpr ⟨(xg_mi 620 (by decide +kernel) (by decide +kernel)), fun _ h => absurd h List.not_mem_nil⟩⟩⟩⟩
theorem cn_X2_69 : Cond.methodLinkNest RX2 69 mX4_handIn.1 RX4 ∈ xk_nest := by decide +kernel
theorem cw_X2_69 : ∀ w ∈ [Cond.static mX4_handIn.1, .initialized mX4_handIn.1.cls, xg_cd mX4_handIn], w ∈ xg_tb := List.forall_mem_cons.mpr ⟨(xg_mi 482 (by decide +kernel) (by decide +kernel)), List.forall_mem_cons.mpr ⟨(xg_mi 58 (by decide +kernel) (by decide +kernel)), List.forall_mem_cons.mpr ⟨(xg_mi 483 (by decide +kernel) (by decide +kernel)), fun _ h => absurd h List.not_mem_nil⟩⟩⟩
theorem cw_X3_25 : ∀ w ∈ [Cond.methodLink RX3 25 mX3_nextToken.1, .instanceMethod mX3_nextToken.1, .selects mX3_nextToken.1.cls mX3_nextToken.1 mX3_nextToken.1, .initialized mX3_nextToken.1.cls, xg_cd mX3_nextToken], w ∈ xg_tb := List.forall_mem_cons.mpr ⟨(xg_mi 298 (by decide +kernel) (by decide +kernel)), List.forall_mem_cons.mpr ⟨(xg_mi 300 (by decide +kernel) (by decide +kernel)), List.forall_mem_cons.mpr ⟨(xg_mi 0 (by decide +kernel) (by decide +kernel)), List.forall_mem_cons.mpr ⟨(xg_mi 60 (by decide +kernel) (by decide +kernel)), List.forall_mem_cons.mpr ⟨(xg_mi 301 (by decide +kernel) (by decide +kernel)), fun _ h => absurd h List.not_mem_nil⟩⟩⟩⟩⟩
theorem cw_X3_28 : ∀ w ∈ [Cond.methodLink RX3 28 mX3_readClause.1, .instanceMethod mX3_readClause.1, .selects mX3_readClause.1.cls mX3_readClause.1 mX3_readClause.1, .initialized mX3_readClause.1.cls, xg_cd mX3_readClause], w ∈ xg_tb := List.forall_mem_cons.mpr ⟨(xg_mi 312 (by decide +kernel) (by decide +kernel)), List.forall_mem_cons.mpr ⟨(xg_mi 314 (by decide +kernel) (by decide +kernel)), List.forall_mem_cons.mpr ⟨(xg_mi 2 (by decide +kernel) (by decide +kernel)), List.forall_mem_cons.mpr ⟨(xg_mi 60 (by decide +kernel) (by decide +kernel)), List.forall_mem_cons.mpr ⟨(xg_mi 315 (by decide +kernel) (by decide +kernel)), fun _ h => absurd h List.not_mem_nil⟩⟩⟩⟩⟩
theorem cw_X3_38 : ∀ w ∈ [Cond.methodLink RX3 38 mX3_letterAt.1, .instanceMethod mX3_letterAt.1, .selects mX3_letterAt.1.cls mX3_letterAt.1 mX3_letterAt.1, .initialized mX3_letterAt.1.cls, xg_cd mX3_letterAt], w ∈ xg_tb := List.forall_mem_cons.mpr ⟨(xg_mi 302 (by decide +kernel) (by decide +kernel)), List.forall_mem_cons.mpr ⟨(xg_mi 304 (by decide +kernel) (by decide +kernel)), List.forall_mem_cons.mpr ⟨(xg_mi 1 (by decide +kernel) (by decide +kernel)), List.forall_mem_cons.mpr ⟨(xg_mi 60 (by decide +kernel) (by decide +kernel)), List.forall_mem_cons.mpr ⟨(xg_mi 305 (by decide +kernel) (by decide +kernel)), fun _ h => absurd h List.not_mem_nil⟩⟩⟩⟩⟩
theorem cw_X3_42 : ∀ w ∈ [Cond.methodLink RX3 42 mX3_readWord.1, .instanceMethod mX3_readWord.1, .selects mX3_readWord.1.cls mX3_readWord.1 mX3_readWord.1, .initialized mX3_readWord.1.cls, xg_cd mX3_readWord], w ∈ xg_tb := List.forall_mem_cons.mpr ⟨(xg_mi 316 (by decide +kernel) (by decide +kernel)), List.forall_mem_cons.mpr ⟨(xg_mi 318 (by decide +kernel) (by decide +kernel)), List.forall_mem_cons.mpr ⟨(xg_mi 3 (by decide +kernel) (by decide +kernel)), List.forall_mem_cons.mpr ⟨(xg_mi 60 (by decide +kernel) (by decide +kernel)), List.forall_mem_cons.mpr ⟨(xg_mi 319 (by decide +kernel) (by decide +kernel)), fun _ h => absurd h List.not_mem_nil⟩⟩⟩⟩⟩
theorem cw_X3_54 : ∀ w ∈ [Cond.methodLink RX3 54 mX3_readNumber.1, .instanceMethod mX3_readNumber.1, .selects mX3_readNumber.1.cls mX3_readNumber.1 mX3_readNumber.1, .initialized mX3_readNumber.1.cls, xg_cd mX3_readNumber], w ∈ xg_tb := List.forall_mem_cons.mpr ⟨(xg_mi 388 (by decide +kernel) (by decide +kernel)), List.forall_mem_cons.mpr ⟨(xg_mi 390 (by decide +kernel) (by decide +kernel)), List.forall_mem_cons.mpr ⟨(xg_mi 5 (by decide +kernel) (by decide +kernel)), List.forall_mem_cons.mpr ⟨(xg_mi 60 (by decide +kernel) (by decide +kernel)), List.forall_mem_cons.mpr ⟨(xg_mi 391 (by decide +kernel) (by decide +kernel)), fun _ h => absurd h List.not_mem_nil⟩⟩⟩⟩⟩
theorem cw_X3_57 : ∀ w ∈ [Cond.methodLink RX3 57 mX3_leastOf.1, .static mX3_leastOf.1, .initialized mX3_leastOf.1.cls, xg_cd mX3_leastOf], w ∈ xg_tb := List.forall_mem_cons.mpr ⟨(xg_mi 392 (by decide +kernel) (by decide +kernel)), List.forall_mem_cons.mpr ⟨(xg_mi 393 (by decide +kernel) (by decide +kernel)), List.forall_mem_cons.mpr ⟨(xg_mi 60 (by decide +kernel) (by decide +kernel)), List.forall_mem_cons.mpr ⟨(xg_mi 394 (by decide +kernel) (by decide +kernel)), fun _ h => absurd h List.not_mem_nil⟩⟩⟩⟩
theorem cw_X3_61 : ∀ w ∈ [Cond.methodLink RX3 61 mX3_mostOf.1, .static mX3_mostOf.1, .initialized mX3_mostOf.1.cls, xg_cd mX3_mostOf], w ∈ xg_tb := List.forall_mem_cons.mpr ⟨(xg_mi 395 (by decide +kernel) (by decide +kernel)), List.forall_mem_cons.mpr ⟨(xg_mi 396 (by decide +kernel) (by decide +kernel)), List.forall_mem_cons.mpr ⟨(xg_mi 60 (by decide +kernel) (by decide +kernel)), List.forall_mem_cons.mpr ⟨(xg_mi 397 (by decide +kernel) (by decide +kernel)), fun _ h => absurd h List.not_mem_nil⟩⟩⟩⟩
theorem cw_X3_64 : ∀ w ∈ [Cond.methodLink RX3 64 mX3_doClause.1, .instanceMethod mX3_doClause.1, .selects mX3_doClause.1.cls mX3_doClause.1 mX3_doClause.1, .initialized mX3_doClause.1.cls, xg_cd mX3_doClause], w ∈ xg_tb := List.forall_mem_cons.mpr ⟨(xg_mi 398 (by decide +kernel) (by decide +kernel)), List.forall_mem_cons.mpr ⟨(xg_mi 400 (by decide +kernel) (by decide +kernel)), List.forall_mem_cons.mpr ⟨(xg_mi 6 (by decide +kernel) (by decide +kernel)), List.forall_mem_cons.mpr ⟨(xg_mi 60 (by decide +kernel) (by decide +kernel)), List.forall_mem_cons.mpr ⟨(xg_mi 401 (by decide +kernel) (by decide +kernel)), fun _ h => absurd h List.not_mem_nil⟩⟩⟩⟩⟩
theorem cw_X3_68 : ∀ w ∈ [Cond.methodLink RX3 68 mX3_setBears.1, .static mX3_setBears.1, .initialized mX3_setBears.1.cls, xg_cd mX3_setBears], w ∈ xg_tb := List.forall_mem_cons.mpr ⟨(xg_mi 402 (by decide +kernel) (by decide +kernel)), List.forall_mem_cons.mpr ⟨(xg_mi 403 (by decide +kernel) (by decide +kernel)), List.forall_mem_cons.mpr ⟨(xg_mi 60 (by decide +kernel) (by decide +kernel)), List.forall_mem_cons.mpr ⟨(xg_mi 404 (by decide +kernel) (by decide +kernel)), fun _ h => absurd h List.not_mem_nil⟩⟩⟩⟩
theorem cw_X3_81 : ∀ w ∈ [Cond.methodLink RX3 81 mX0_reset.1, .instanceMethod mX0_reset.1, .selects mX0_reset.1.cls mX0_reset.1 mX0_reset.1, .initialized mX0_reset.1.cls, xg_cd mX0_reset], w ∈ xg_tb := List.forall_mem_cons.mpr ⟨(xg_mi 405 (by decide +kernel) (by decide +kernel)), List.forall_mem_cons.mpr ⟨(xg_mi 406 (by decide +kernel) (by decide +kernel)), List.forall_mem_cons.mpr ⟨(xg_mi 407 (by decide +kernel) (by decide +kernel)), List.forall_mem_cons.mpr ⟨(xg_mi 59 (by decide +kernel) (by decide +kernel)), List.forall_mem_cons.mpr ⟨(xg_mi 408 (by decide +kernel) (by decide +kernel)), fun _ h => absurd h List.not_mem_nil⟩⟩⟩⟩⟩
theorem cw_X3_84 : ∀ w ∈ [Cond.methodLink RX3 84 mX0_addThing.1, .instanceMethod mX0_addThing.1, .selects mX0_addThing.1.cls mX0_addThing.1 mX0_addThing.1, .initialized mX0_addThing.1.cls, xg_cd mX0_addThing], w ∈ xg_tb := List.forall_mem_cons.mpr ⟨(xg_mi 409 (by decide +kernel) (by decide +kernel)), List.forall_mem_cons.mpr ⟨(xg_mi 410 (by decide +kernel) (by decide +kernel)), List.forall_mem_cons.mpr ⟨(xg_mi 411 (by decide +kernel) (by decide +kernel)), List.forall_mem_cons.mpr ⟨(xg_mi 59 (by decide +kernel) (by decide +kernel)), List.forall_mem_cons.mpr ⟨(xg_mi 412 (by decide +kernel) (by decide +kernel)), fun _ h => absurd h List.not_mem_nil⟩⟩⟩⟩⟩
theorem cw_X3_109 : ∀ w ∈ [Cond.methodLink RX3 109 mX3_wordText.1, .static mX3_wordText.1, .initialized mX3_wordText.1.cls, xg_cd mX3_wordText], w ∈ xg_tb := List.forall_mem_cons.mpr ⟨(xg_mi 320 (by decide +kernel) (by decide +kernel)), List.forall_mem_cons.mpr ⟨(xg_mi 321 (by decide +kernel) (by decide +kernel)), List.forall_mem_cons.mpr ⟨(xg_mi 60 (by decide +kernel) (by decide +kernel)), List.forall_mem_cons.mpr ⟨(xg_mi 322 (by decide +kernel) (by decide +kernel)), fun _ h => absurd h List.not_mem_nil⟩⟩⟩⟩
theorem cw_X3_113 : ∀ w ∈ [Cond.methodLink RX3 113 mX3_isToken.1, .instanceMethod mX3_isToken.1, .selects mX3_isToken.1.cls mX3_isToken.1 mX3_isToken.1, .initialized mX3_isToken.1.cls, xg_cd mX3_isToken], w ∈ xg_tb := List.forall_mem_cons.mpr ⟨(xg_mi 334 (by decide +kernel) (by decide +kernel)), List.forall_mem_cons.mpr ⟨(xg_mi 336 (by decide +kernel) (by decide +kernel)), List.forall_mem_cons.mpr ⟨(xg_mi 4 (by decide +kernel) (by decide +kernel)), List.forall_mem_cons.mpr ⟨(xg_mi 60 (by decide +kernel) (by decide +kernel)), List.forall_mem_cons.mpr ⟨(xg_mi 337 (by decide +kernel) (by decide +kernel)), fun _ h => absurd h List.not_mem_nil⟩⟩⟩⟩⟩
theorem cw_X3_117 : ∀ w ∈ [Cond.methodLink RX3 117 mJ0_length_8abf5.1, .instanceMethod mJ0_length_8abf5.1, .selects mJ0_length_8abf5.1.cls mJ0_length_8abf5.1 mJ0_length_8abf5.1, .initialized mJ0_length_8abf5.1.cls, xg_cd mJ0_length_8abf5], w ∈ xg_tb := List.forall_mem_cons.mpr ⟨(xg_mi 338 (by decide +kernel) (by decide +kernel)), List.forall_mem_cons.mpr ⟨(xg_mi 339 (by decide +kernel) (by decide +kernel)), List.forall_mem_cons.mpr ⟨(xg_mi 340 (by decide +kernel) (by decide +kernel)), List.forall_mem_cons.mpr ⟨(xg_mi 64 (by decide +kernel) (by decide +kernel)), List.forall_mem_cons.mpr ⟨(xg_mi 341 (by decide +kernel) (by decide +kernel)), fun _ h => absurd h List.not_mem_nil⟩⟩⟩⟩⟩
theorem cw_X3_121 : ∀ w ∈ [Cond.methodLink RX3 121 mJ0_charAt_5068e.1, .instanceMethod mJ0_charAt_5068e.1, .selects mJ0_charAt_5068e.1.cls mJ0_charAt_5068e.1 mJ0_charAt_5068e.1, .initialized mJ0_charAt_5068e.1.cls, xg_cd mJ0_charAt_5068e], w ∈ xg_tb := List.forall_mem_cons.mpr ⟨(xg_mi 348 (by decide +kernel) (by decide +kernel)), List.forall_mem_cons.mpr ⟨(xg_mi 349 (by decide +kernel) (by decide +kernel)), List.forall_mem_cons.mpr ⟨(xg_mi 350 (by decide +kernel) (by decide +kernel)), List.forall_mem_cons.mpr ⟨(xg_mi 64 (by decide +kernel) (by decide +kernel)), List.forall_mem_cons.mpr ⟨(xg_mi 351 (by decide +kernel) (by decide +kernel)), fun _ h => absurd h List.not_mem_nil⟩⟩⟩⟩⟩
theorem cw_X3_125 : ∀ w ∈ [Cond.methodLink RX3 125 mX3_isDigit.1, .static mX3_isDigit.1, .initialized mX3_isDigit.1.cls, xg_cd mX3_isDigit], w ∈ xg_tb := List.forall_mem_cons.mpr ⟨(xg_mi 309 (by decide +kernel) (by decide +kernel)), List.forall_mem_cons.mpr ⟨(xg_mi 310 (by decide +kernel) (by decide +kernel)), List.forall_mem_cons.mpr ⟨(xg_mi 60 (by decide +kernel) (by decide +kernel)), List.forall_mem_cons.mpr ⟨(xg_mi 311 (by decide +kernel) (by decide +kernel)), fun _ h => absurd h List.not_mem_nil⟩⟩⟩⟩
theorem cw_X3_129 : ∀ w ∈ [Cond.methodLink RX3 129 mX3_isSmall.1, .static mX3_isSmall.1, .initialized mX3_isSmall.1.cls, xg_cd mX3_isSmall], w ∈ xg_tb := List.forall_mem_cons.mpr ⟨(xg_mi 306 (by decide +kernel) (by decide +kernel)), List.forall_mem_cons.mpr ⟨(xg_mi 307 (by decide +kernel) (by decide +kernel)), List.forall_mem_cons.mpr ⟨(xg_mi 60 (by decide +kernel) (by decide +kernel)), List.forall_mem_cons.mpr ⟨(xg_mi 308 (by decide +kernel) (by decide +kernel)), fun _ h => absurd h List.not_mem_nil⟩⟩⟩⟩
theorem cw_X4_70 : ∀ w ∈ [Cond.methodLink RX4 70 mX0_copyFrom.1, .instanceMethod mX0_copyFrom.1, .selects mX0_copyFrom.1.cls mX0_copyFrom.1 mX0_copyFrom.1, .initialized mX0_copyFrom.1.cls, xg_cd mX0_copyFrom], w ∈ xg_tb := List.forall_mem_cons.mpr ⟨(xg_mi 290 (by decide +kernel) (by decide +kernel)), List.forall_mem_cons.mpr ⟨(xg_mi 291 (by decide +kernel) (by decide +kernel)), List.forall_mem_cons.mpr ⟨(xg_mi 292 (by decide +kernel) (by decide +kernel)), List.forall_mem_cons.mpr ⟨(xg_mi 59 (by decide +kernel) (by decide +kernel)), List.forall_mem_cons.mpr ⟨(xg_mi 293 (by decide +kernel) (by decide +kernel)), fun _ h => absurd h List.not_mem_nil⟩⟩⟩⟩⟩
theorem cw_X4_74 : ∀ w ∈ [Cond.methodLink RX4 74 mX3_readOnto.1, .instanceMethod mX3_readOnto.1, .selects mX3_readOnto.1.cls mX3_readOnto.1 mX3_readOnto.1, .initialized mX3_readOnto.1.cls, xg_cd mX3_readOnto], w ∈ xg_tb := List.forall_mem_cons.mpr ⟨(xg_mi 294 (by decide +kernel) (by decide +kernel)), List.forall_mem_cons.mpr ⟨(xg_mi 295 (by decide +kernel) (by decide +kernel)), List.forall_mem_cons.mpr ⟨(xg_mi 296 (by decide +kernel) (by decide +kernel)), List.forall_mem_cons.mpr ⟨(xg_mi 60 (by decide +kernel) (by decide +kernel)), List.forall_mem_cons.mpr ⟨(xg_mi 297 (by decide +kernel) (by decide +kernel)), fun _ h => absurd h List.not_mem_nil⟩⟩⟩⟩⟩
theorem cw_X4_78 : ∀ w ∈ [Cond.methodLink RX4 78 mX4_startDay.1, .instanceMethod mX4_startDay.1, .selects mX4_startDay.1.cls mX4_startDay.1 mX4_startDay.1, .initialized mX4_startDay.1.cls, xg_cd mX4_startDay], w ∈ xg_tb := List.forall_mem_cons.mpr ⟨(xg_mi 418 (by decide +kernel) (by decide +kernel)), List.forall_mem_cons.mpr ⟨(xg_mi 420 (by decide +kernel) (by decide +kernel)), List.forall_mem_cons.mpr ⟨(xg_mi 7 (by decide +kernel) (by decide +kernel)), List.forall_mem_cons.mpr ⟨(xg_mi 58 (by decide +kernel) (by decide +kernel)), List.forall_mem_cons.mpr ⟨(xg_mi 421 (by decide +kernel) (by decide +kernel)), fun _ h => absurd h List.not_mem_nil⟩⟩⟩⟩⟩
theorem cw_X4_84 : ∀ w ∈ [Cond.methodLink RX4 84 mX4_isThing.1, .instanceMethod mX4_isThing.1, .selects mX4_isThing.1.cls mX4_isThing.1 mX4_isThing.1, .initialized mX4_isThing.1.cls, xg_cd mX4_isThing], w ∈ xg_tb := List.forall_mem_cons.mpr ⟨(xg_mi 430 (by decide +kernel) (by decide +kernel)), List.forall_mem_cons.mpr ⟨(xg_mi 432 (by decide +kernel) (by decide +kernel)), List.forall_mem_cons.mpr ⟨(xg_mi 8 (by decide +kernel) (by decide +kernel)), List.forall_mem_cons.mpr ⟨(xg_mi 58 (by decide +kernel) (by decide +kernel)), List.forall_mem_cons.mpr ⟨(xg_mi 433 (by decide +kernel) (by decide +kernel)), fun _ h => absurd h List.not_mem_nil⟩⟩⟩⟩⟩
theorem cw_X4_100 : ∀ w ∈ [Cond.methodLink RX4 100 mX1_goldOf.1, .instanceMethod mX1_goldOf.1, .selects mX1_goldOf.1.cls mX1_goldOf.1 mX1_goldOf.1, .initialized mX1_goldOf.1.cls, xg_cd mX1_goldOf], w ∈ xg_tb := List.forall_mem_cons.mpr ⟨(xg_mi 434 (by decide +kernel) (by decide +kernel)), List.forall_mem_cons.mpr ⟨(xg_mi 435 (by decide +kernel) (by decide +kernel)), List.forall_mem_cons.mpr ⟨(xg_mi 436 (by decide +kernel) (by decide +kernel)), List.forall_mem_cons.mpr ⟨(xg_mi 61 (by decide +kernel) (by decide +kernel)), List.forall_mem_cons.mpr ⟨(xg_mi 437 (by decide +kernel) (by decide +kernel)), fun _ h => absurd h List.not_mem_nil⟩⟩⟩⟩⟩
theorem cw_X4_107 : ∀ w ∈ [Cond.methodLink RX4 107 mX4_hasBit.1, .static mX4_hasBit.1, .initialized mX4_hasBit.1.cls, xg_cd mX4_hasBit], w ∈ xg_tb := List.forall_mem_cons.mpr ⟨(xg_mi 441 (by decide +kernel) (by decide +kernel)), List.forall_mem_cons.mpr ⟨(xg_mi 439 (by decide +kernel) (by decide +kernel)), List.forall_mem_cons.mpr ⟨(xg_mi 58 (by decide +kernel) (by decide +kernel)), List.forall_mem_cons.mpr ⟨(xg_mi 440 (by decide +kernel) (by decide +kernel)), fun _ h => absurd h List.not_mem_nil⟩⟩⟩⟩
theorem cw_X4_111 : ∀ w ∈ [Cond.methodLink RX4 111 mX1_priceOf.1, .instanceMethod mX1_priceOf.1, .selects mX1_priceOf.1.cls mX1_priceOf.1 mX1_priceOf.1, .initialized mX1_priceOf.1.cls, xg_cd mX1_priceOf], w ∈ xg_tb := List.forall_mem_cons.mpr ⟨(xg_mi 442 (by decide +kernel) (by decide +kernel)), List.forall_mem_cons.mpr ⟨(xg_mi 443 (by decide +kernel) (by decide +kernel)), List.forall_mem_cons.mpr ⟨(xg_mi 444 (by decide +kernel) (by decide +kernel)), List.forall_mem_cons.mpr ⟨(xg_mi 61 (by decide +kernel) (by decide +kernel)), List.forall_mem_cons.mpr ⟨(xg_mi 445 (by decide +kernel) (by decide +kernel)), fun _ h => absurd h List.not_mem_nil⟩⟩⟩⟩⟩
theorem cw_X4_118 : ∀ w ∈ [Cond.methodLink RX4 118 mX4_isUnder.1, .static mX4_isUnder.1, .initialized mX4_isUnder.1.cls, xg_cd mX4_isUnder], w ∈ xg_tb := List.forall_mem_cons.mpr ⟨(xg_mi 457 (by decide +kernel) (by decide +kernel)), List.forall_mem_cons.mpr ⟨(xg_mi 458 (by decide +kernel) (by decide +kernel)), List.forall_mem_cons.mpr ⟨(xg_mi 58 (by decide +kernel) (by decide +kernel)), List.forall_mem_cons.mpr ⟨(xg_mi 459 (by decide +kernel) (by decide +kernel)), fun _ h => absurd h List.not_mem_nil⟩⟩⟩⟩
theorem cw_X4_121 : ∀ w ∈ [Cond.methodLink RX4 121 mX1_weighs.1, .instanceMethod mX1_weighs.1, .selects mX1_weighs.1.cls mX1_weighs.1 mX1_weighs.1, .initialized mX1_weighs.1.cls, xg_cd mX1_weighs], w ∈ xg_tb := List.forall_mem_cons.mpr ⟨(xg_mi 460 (by decide +kernel) (by decide +kernel)), List.forall_mem_cons.mpr ⟨(xg_mi 461 (by decide +kernel) (by decide +kernel)), List.forall_mem_cons.mpr ⟨(xg_mi 462 (by decide +kernel) (by decide +kernel)), List.forall_mem_cons.mpr ⟨(xg_mi 61 (by decide +kernel) (by decide +kernel)), List.forall_mem_cons.mpr ⟨(xg_mi 463 (by decide +kernel) (by decide +kernel)), fun _ h => absurd h List.not_mem_nil⟩⟩⟩⟩⟩
theorem cw_X4_127 : ∀ w ∈ [Cond.methodLink RX4 127 mX1_loadOf.1, .instanceMethod mX1_loadOf.1, .selects mX1_loadOf.1.cls mX1_loadOf.1 mX1_loadOf.1, .initialized mX1_loadOf.1.cls, xg_cd mX1_loadOf], w ∈ xg_tb := List.forall_mem_cons.mpr ⟨(xg_mi 468 (by decide +kernel) (by decide +kernel)), List.forall_mem_cons.mpr ⟨(xg_mi 469 (by decide +kernel) (by decide +kernel)), List.forall_mem_cons.mpr ⟨(xg_mi 470 (by decide +kernel) (by decide +kernel)), List.forall_mem_cons.mpr ⟨(xg_mi 61 (by decide +kernel) (by decide +kernel)), List.forall_mem_cons.mpr ⟨(xg_mi 471 (by decide +kernel) (by decide +kernel)), fun _ h => absurd h List.not_mem_nil⟩⟩⟩⟩⟩
theorem cw_X4_136 : ∀ w ∈ [Cond.methodLink RX4 136 mX1_toolOf.1, .instanceMethod mX1_toolOf.1, .selects mX1_toolOf.1.cls mX1_toolOf.1 mX1_toolOf.1, .initialized mX1_toolOf.1.cls, xg_cd mX1_toolOf], w ∈ xg_tb := List.forall_mem_cons.mpr ⟨(xg_mi 473 (by decide +kernel) (by decide +kernel)), List.forall_mem_cons.mpr ⟨(xg_mi 474 (by decide +kernel) (by decide +kernel)), List.forall_mem_cons.mpr ⟨(xg_mi 475 (by decide +kernel) (by decide +kernel)), List.forall_mem_cons.mpr ⟨(xg_mi 61 (by decide +kernel) (by decide +kernel)), List.forall_mem_cons.mpr ⟨(xg_mi 476 (by decide +kernel) (by decide +kernel)), fun _ h => absurd h List.not_mem_nil⟩⟩⟩⟩⟩
theorem cw_X4_143 : ∀ w ∈ [Cond.methodLink RX4 143 mX4_handIn.1, .static mX4_handIn.1, .initialized mX4_handIn.1.cls, xg_cd mX4_handIn], w ∈ xg_tb := List.forall_mem_cons.mpr ⟨(xg_mi 481 (by decide +kernel) (by decide +kernel)), List.forall_mem_cons.mpr ⟨(xg_mi 482 (by decide +kernel) (by decide +kernel)), List.forall_mem_cons.mpr ⟨(xg_mi 58 (by decide +kernel) (by decide +kernel)), List.forall_mem_cons.mpr ⟨(xg_mi 483 (by decide +kernel) (by decide +kernel)), fun _ h => absurd h List.not_mem_nil⟩⟩⟩⟩
theorem cw_X4_146 : ∀ w ∈ [Cond.methodLink RX4 146 mX1_isLost.1, .instanceMethod mX1_isLost.1, .selects mX1_isLost.1.cls mX1_isLost.1 mX1_isLost.1, .initialized mX1_isLost.1.cls, xg_cd mX1_isLost], w ∈ xg_tb := List.forall_mem_cons.mpr ⟨(xg_mi 488 (by decide +kernel) (by decide +kernel)), List.forall_mem_cons.mpr ⟨(xg_mi 447 (by decide +kernel) (by decide +kernel)), List.forall_mem_cons.mpr ⟨(xg_mi 448 (by decide +kernel) (by decide +kernel)), List.forall_mem_cons.mpr ⟨(xg_mi 61 (by decide +kernel) (by decide +kernel)), List.forall_mem_cons.mpr ⟨(xg_mi 449 (by decide +kernel) (by decide +kernel)), fun _ h => absurd h List.not_mem_nil⟩⟩⟩⟩⟩
theorem cw_X4_153 : ∀ w ∈ [Cond.methodLink RX4 153 mX4_doTouching.1, .instanceMethod mX4_doTouching.1, .selects mX4_doTouching.1.cls mX4_doTouching.1 mX4_doTouching.1, .initialized mX4_doTouching.1.cls, xg_cd mX4_doTouching], w ∈ xg_tb := List.forall_mem_cons.mpr ⟨(xg_mi 489 (by decide +kernel) (by decide +kernel)), List.forall_mem_cons.mpr ⟨(xg_mi 491 (by decide +kernel) (by decide +kernel)), List.forall_mem_cons.mpr ⟨(xg_mi 9 (by decide +kernel) (by decide +kernel)), List.forall_mem_cons.mpr ⟨(xg_mi 58 (by decide +kernel) (by decide +kernel)), List.forall_mem_cons.mpr ⟨(xg_mi 492 (by decide +kernel) (by decide +kernel)), fun _ h => absurd h List.not_mem_nil⟩⟩⟩⟩⟩
theorem cw_X4_156 : ∀ w ∈ [Cond.methodLink RX4 156 mX4_servesAsTool.1, .instanceMethod mX4_servesAsTool.1, .selects mX4_servesAsTool.1.cls mX4_servesAsTool.1 mX4_servesAsTool.1, .initialized mX4_servesAsTool.1.cls, xg_cd mX4_servesAsTool], w ∈ xg_tb := List.forall_mem_cons.mpr ⟨(xg_mi 515 (by decide +kernel) (by decide +kernel)), List.forall_mem_cons.mpr ⟨(xg_mi 517 (by decide +kernel) (by decide +kernel)), List.forall_mem_cons.mpr ⟨(xg_mi 11 (by decide +kernel) (by decide +kernel)), List.forall_mem_cons.mpr ⟨(xg_mi 58 (by decide +kernel) (by decide +kernel)), List.forall_mem_cons.mpr ⟨(xg_mi 518 (by decide +kernel) (by decide +kernel)), fun _ h => absurd h List.not_mem_nil⟩⟩⟩⟩⟩
theorem cw_X4_159 : ∀ w ∈ [Cond.methodLink RX4 159 mX4_doEating.1, .instanceMethod mX4_doEating.1, .selects mX4_doEating.1.cls mX4_doEating.1 mX4_doEating.1, .initialized mX4_doEating.1.cls, xg_cd mX4_doEating], w ∈ xg_tb := List.forall_mem_cons.mpr ⟨(xg_mi 523 (by decide +kernel) (by decide +kernel)), List.forall_mem_cons.mpr ⟨(xg_mi 525 (by decide +kernel) (by decide +kernel)), List.forall_mem_cons.mpr ⟨(xg_mi 12 (by decide +kernel) (by decide +kernel)), List.forall_mem_cons.mpr ⟨(xg_mi 58 (by decide +kernel) (by decide +kernel)), List.forall_mem_cons.mpr ⟨(xg_mi 526 (by decide +kernel) (by decide +kernel)), fun _ h => absurd h List.not_mem_nil⟩⟩⟩⟩⟩
theorem cw_X4_163 : ∀ w ∈ [Cond.methodLink RX4 163 mX4_remember.1, .instanceMethod mX4_remember.1, .selects mX4_remember.1.cls mX4_remember.1 mX4_remember.1, .initialized mX4_remember.1.cls, xg_cd mX4_remember], w ∈ xg_tb := List.forall_mem_cons.mpr ⟨(xg_mi 493 (by decide +kernel) (by decide +kernel)), List.forall_mem_cons.mpr ⟨(xg_mi 495 (by decide +kernel) (by decide +kernel)), List.forall_mem_cons.mpr ⟨(xg_mi 10 (by decide +kernel) (by decide +kernel)), List.forall_mem_cons.mpr ⟨(xg_mi 58 (by decide +kernel) (by decide +kernel)), List.forall_mem_cons.mpr ⟨(xg_mi 496 (by decide +kernel) (by decide +kernel)), fun _ h => absurd h List.not_mem_nil⟩⟩⟩⟩⟩
theorem cw_X4_166 : ∀ w ∈ [Cond.methodLink RX4 166 mX1_pass.1, .instanceMethod mX1_pass.1, .selects mX1_pass.1.cls mX1_pass.1 mX1_pass.1, .initialized mX1_pass.1.cls, xg_cd mX1_pass], w ∈ xg_tb := List.forall_mem_cons.mpr ⟨(xg_mi 506 (by decide +kernel) (by decide +kernel)), List.forall_mem_cons.mpr ⟨(xg_mi 507 (by decide +kernel) (by decide +kernel)), List.forall_mem_cons.mpr ⟨(xg_mi 508 (by decide +kernel) (by decide +kernel)), List.forall_mem_cons.mpr ⟨(xg_mi 61 (by decide +kernel) (by decide +kernel)), List.forall_mem_cons.mpr ⟨(xg_mi 509 (by decide +kernel) (by decide +kernel)), fun _ h => absurd h List.not_mem_nil⟩⟩⟩⟩⟩
theorem cw_X4_172 : ∀ w ∈ [Cond.methodLink RX4 172 mX1_copyFrom.1, .instanceMethod mX1_copyFrom.1, .selects mX1_copyFrom.1.cls mX1_copyFrom.1 mX1_copyFrom.1, .initialized mX1_copyFrom.1.cls, xg_cd mX1_copyFrom], w ∈ xg_tb := List.forall_mem_cons.mpr ⟨(xg_mi 497 (by decide +kernel) (by decide +kernel)), List.forall_mem_cons.mpr ⟨(xg_mi 498 (by decide +kernel) (by decide +kernel)), List.forall_mem_cons.mpr ⟨(xg_mi 499 (by decide +kernel) (by decide +kernel)), List.forall_mem_cons.mpr ⟨(xg_mi 61 (by decide +kernel) (by decide +kernel)), List.forall_mem_cons.mpr ⟨(xg_mi 500 (by decide +kernel) (by decide +kernel)), fun _ h => absurd h List.not_mem_nil⟩⟩⟩⟩⟩
theorem cw_X4_178 : ∀ w ∈ [Cond.methodLink RX4 178 mX4_townThings.1, .instanceMethod mX4_townThings.1, .selects mX4_townThings.1.cls mX4_townThings.1 mX4_townThings.1, .initialized mX4_townThings.1.cls, xg_cd mX4_townThings], w ∈ xg_tb := List.forall_mem_cons.mpr ⟨(xg_mi 551 (by decide +kernel) (by decide +kernel)), List.forall_mem_cons.mpr ⟨(xg_mi 553 (by decide +kernel) (by decide +kernel)), List.forall_mem_cons.mpr ⟨(xg_mi 13 (by decide +kernel) (by decide +kernel)), List.forall_mem_cons.mpr ⟨(xg_mi 58 (by decide +kernel) (by decide +kernel)), List.forall_mem_cons.mpr ⟨(xg_mi 554 (by decide +kernel) (by decide +kernel)), fun _ h => absurd h List.not_mem_nil⟩⟩⟩⟩⟩
theorem cw_X4_185 : ∀ w ∈ [Cond.methodLink RX4 185 mX1_firstOverloaded.1, .instanceMethod mX1_firstOverloaded.1, .selects mX1_firstOverloaded.1.cls mX1_firstOverloaded.1 mX1_firstOverloaded.1, .initialized mX1_firstOverloaded.1.cls, xg_cd mX1_firstOverloaded], w ∈ xg_tb := List.forall_mem_cons.mpr ⟨(xg_mi 555 (by decide +kernel) (by decide +kernel)), List.forall_mem_cons.mpr ⟨(xg_mi 556 (by decide +kernel) (by decide +kernel)), List.forall_mem_cons.mpr ⟨(xg_mi 557 (by decide +kernel) (by decide +kernel)), List.forall_mem_cons.mpr ⟨(xg_mi 61 (by decide +kernel) (by decide +kernel)), List.forall_mem_cons.mpr ⟨(xg_mi 558 (by decide +kernel) (by decide +kernel)), fun _ h => absurd h List.not_mem_nil⟩⟩⟩⟩⟩
theorem cw_X4_188 : ∀ w ∈ [Cond.methodLink RX4 188 mX1_openGates.1, .instanceMethod mX1_openGates.1, .selects mX1_openGates.1.cls mX1_openGates.1 mX1_openGates.1, .initialized mX1_openGates.1.cls, xg_cd mX1_openGates], w ∈ xg_tb := List.forall_mem_cons.mpr ⟨(xg_mi 559 (by decide +kernel) (by decide +kernel)), List.forall_mem_cons.mpr ⟨(xg_mi 560 (by decide +kernel) (by decide +kernel)), List.forall_mem_cons.mpr ⟨(xg_mi 561 (by decide +kernel) (by decide +kernel)), List.forall_mem_cons.mpr ⟨(xg_mi 61 (by decide +kernel) (by decide +kernel)), List.forall_mem_cons.mpr ⟨(xg_mi 562 (by decide +kernel) (by decide +kernel)), fun _ h => absurd h List.not_mem_nil⟩⟩⟩⟩⟩
theorem cw_X4_191 : ∀ w ∈ [Cond.methodLink RX4 191 mX1_prices.1, .instanceMethod mX1_prices.1, .selects mX1_prices.1.cls mX1_prices.1 mX1_prices.1, .initialized mX1_prices.1.cls, xg_cd mX1_prices], w ∈ xg_tb := List.forall_mem_cons.mpr ⟨(xg_mi 563 (by decide +kernel) (by decide +kernel)), List.forall_mem_cons.mpr ⟨(xg_mi 564 (by decide +kernel) (by decide +kernel)), List.forall_mem_cons.mpr ⟨(xg_mi 565 (by decide +kernel) (by decide +kernel)), List.forall_mem_cons.mpr ⟨(xg_mi 61 (by decide +kernel) (by decide +kernel)), List.forall_mem_cons.mpr ⟨(xg_mi 566 (by decide +kernel) (by decide +kernel)), fun _ h => absurd h List.not_mem_nil⟩⟩⟩⟩⟩
theorem cw_X4_197 : ∀ w ∈ [Cond.methodLink RX4 197 mJ6_bitCount_0f7a4.1, .static mJ6_bitCount_0f7a4.1, .initialized mJ6_bitCount_0f7a4.1.cls, xg_cd mJ6_bitCount_0f7a4], w ∈ xg_tb := List.forall_mem_cons.mpr ⟨(xg_mi 584 (by decide +kernel) (by decide +kernel)), List.forall_mem_cons.mpr ⟨(xg_mi 585 (by decide +kernel) (by decide +kernel)), List.forall_mem_cons.mpr ⟨(xg_mi 68 (by decide +kernel) (by decide +kernel)), List.forall_mem_cons.mpr ⟨(xg_mi 586 (by decide +kernel) (by decide +kernel)), fun _ h => absurd h List.not_mem_nil⟩⟩⟩⟩
theorem cw_X4_202 : ∀ w ∈ [Cond.methodLink RX4 202 mX2_findWay.1, .instanceMethod mX2_findWay.1, .selects mX2_findWay.1.cls mX2_findWay.1 mX2_findWay.1, .initialized mX2_findWay.1.cls, xg_cd mX2_findWay], w ∈ xg_tb := List.forall_mem_cons.mpr ⟨(xg_mi 598 (by decide +kernel) (by decide +kernel)), List.forall_mem_cons.mpr ⟨(xg_mi 599 (by decide +kernel) (by decide +kernel)), List.forall_mem_cons.mpr ⟨(xg_mi 600 (by decide +kernel) (by decide +kernel)), List.forall_mem_cons.mpr ⟨(xg_mi 62 (by decide +kernel) (by decide +kernel)), List.forall_mem_cons.mpr ⟨(xg_mi 601 (by decide +kernel) (by decide +kernel)), fun _ h => absurd h List.not_mem_nil⟩⟩⟩⟩⟩
theorem cw_X4_218 : ∀ w ∈ [Cond.methodLink RX4 218 mX4_isRest.1, .instanceMethod mX4_isRest.1, .selects mX4_isRest.1.cls mX4_isRest.1 mX4_isRest.1, .initialized mX4_isRest.1.cls, xg_cd mX4_isRest], w ∈ xg_tb := List.forall_mem_cons.mpr ⟨(xg_mi 634 (by decide +kernel) (by decide +kernel)), List.forall_mem_cons.mpr ⟨(xg_mi 636 (by decide +kernel) (by decide +kernel)), List.forall_mem_cons.mpr ⟨(xg_mi 16 (by decide +kernel) (by decide +kernel)), List.forall_mem_cons.mpr ⟨(xg_mi 58 (by decide +kernel) (by decide +kernel)), List.forall_mem_cons.mpr ⟨(xg_mi 637 (by decide +kernel) (by decide +kernel)), fun _ h => absurd h List.not_mem_nil⟩⟩⟩⟩⟩
theorem cw_X4_224 : ∀ w ∈ [Cond.methodLink RX4 224 mX4_goldEnd.1, .instanceMethod mX4_goldEnd.1, .selects mX4_goldEnd.1.cls mX4_goldEnd.1 mX4_goldEnd.1, .initialized mX4_goldEnd.1.cls, xg_cd mX4_goldEnd], w ∈ xg_tb := List.forall_mem_cons.mpr ⟨(xg_mi 657 (by decide +kernel) (by decide +kernel)), List.forall_mem_cons.mpr ⟨(xg_mi 659 (by decide +kernel) (by decide +kernel)), List.forall_mem_cons.mpr ⟨(xg_mi 18 (by decide +kernel) (by decide +kernel)), List.forall_mem_cons.mpr ⟨(xg_mi 58 (by decide +kernel) (by decide +kernel)), List.forall_mem_cons.mpr ⟨(xg_mi 660 (by decide +kernel) (by decide +kernel)), fun _ h => absurd h List.not_mem_nil⟩⟩⟩⟩⟩
theorem cw_X4_227 : ∀ w ∈ [Cond.methodLink RX4 227 mX4_fitsSeen.1, .instanceMethod mX4_fitsSeen.1, .selects mX4_fitsSeen.1.cls mX4_fitsSeen.1 mX4_fitsSeen.1, .initialized mX4_fitsSeen.1.cls, xg_cd mX4_fitsSeen], w ∈ xg_tb := List.forall_mem_cons.mpr ⟨(xg_mi 661 (by decide +kernel) (by decide +kernel)), List.forall_mem_cons.mpr ⟨(xg_mi 663 (by decide +kernel) (by decide +kernel)), List.forall_mem_cons.mpr ⟨(xg_mi 19 (by decide +kernel) (by decide +kernel)), List.forall_mem_cons.mpr ⟨(xg_mi 58 (by decide +kernel) (by decide +kernel)), List.forall_mem_cons.mpr ⟨(xg_mi 664 (by decide +kernel) (by decide +kernel)), fun _ h => absurd h List.not_mem_nil⟩⟩⟩⟩⟩
theorem cw_X4_232 : ∀ w ∈ [Cond.methodLink RX4 232 mX4_cleanAnyway.1, .instanceMethod mX4_cleanAnyway.1, .selects mX4_cleanAnyway.1.cls mX4_cleanAnyway.1 mX4_cleanAnyway.1, .initialized mX4_cleanAnyway.1.cls, xg_cd mX4_cleanAnyway], w ∈ xg_tb := List.forall_mem_cons.mpr ⟨(xg_mi 670 (by decide +kernel) (by decide +kernel)), List.forall_mem_cons.mpr ⟨(xg_mi 672 (by decide +kernel) (by decide +kernel)), List.forall_mem_cons.mpr ⟨(xg_mi 20 (by decide +kernel) (by decide +kernel)), List.forall_mem_cons.mpr ⟨(xg_mi 58 (by decide +kernel) (by decide +kernel)), List.forall_mem_cons.mpr ⟨(xg_mi 673 (by decide +kernel) (by decide +kernel)), fun _ h => absurd h List.not_mem_nil⟩⟩⟩⟩⟩
theorem cw_X4_235 : ∀ w ∈ [Cond.methodLink RX4 235 mX4_cleanBehind.1, .instanceMethod mX4_cleanBehind.1, .selects mX4_cleanBehind.1.cls mX4_cleanBehind.1 mX4_cleanBehind.1, .initialized mX4_cleanBehind.1.cls, xg_cd mX4_cleanBehind], w ∈ xg_tb := List.forall_mem_cons.mpr ⟨(xg_mi 674 (by decide +kernel) (by decide +kernel)), List.forall_mem_cons.mpr ⟨(xg_mi 676 (by decide +kernel) (by decide +kernel)), List.forall_mem_cons.mpr ⟨(xg_mi 21 (by decide +kernel) (by decide +kernel)), List.forall_mem_cons.mpr ⟨(xg_mi 58 (by decide +kernel) (by decide +kernel)), List.forall_mem_cons.mpr ⟨(xg_mi 677 (by decide +kernel) (by decide +kernel)), fun _ h => absurd h List.not_mem_nil⟩⟩⟩⟩⟩
theorem cw_X4_240 : ∀ w ∈ [Cond.methodLink RX4 240 mX4_power.1, .static mX4_power.1, .initialized mX4_power.1.cls, xg_cd mX4_power], w ∈ xg_tb := List.forall_mem_cons.mpr ⟨(xg_mi 683 (by decide +kernel) (by decide +kernel)), List.forall_mem_cons.mpr ⟨(xg_mi 684 (by decide +kernel) (by decide +kernel)), List.forall_mem_cons.mpr ⟨(xg_mi 58 (by decide +kernel) (by decide +kernel)), List.forall_mem_cons.mpr ⟨(xg_mi 685 (by decide +kernel) (by decide +kernel)), fun _ h => absurd h List.not_mem_nil⟩⟩⟩⟩
theorem cw_X4_244 : ∀ w ∈ [Cond.methodLink RX4 244 mX4_commonDivisor.1, .static mX4_commonDivisor.1, .initialized mX4_commonDivisor.1.cls, xg_cd mX4_commonDivisor], w ∈ xg_tb := List.forall_mem_cons.mpr ⟨(xg_mi 686 (by decide +kernel) (by decide +kernel)), List.forall_mem_cons.mpr ⟨(xg_mi 687 (by decide +kernel) (by decide +kernel)), List.forall_mem_cons.mpr ⟨(xg_mi 58 (by decide +kernel) (by decide +kernel)), List.forall_mem_cons.mpr ⟨(xg_mi 688 (by decide +kernel) (by decide +kernel)), fun _ h => absurd h List.not_mem_nil⟩⟩⟩⟩
theorem cw_X4_260 : ∀ w ∈ [Cond.methodLink RX4 260 mX1_clear.1, .instanceMethod mX1_clear.1, .selects mX1_clear.1.cls mX1_clear.1 mX1_clear.1, .initialized mX1_clear.1.cls, xg_cd mX1_clear], w ∈ xg_tb := List.forall_mem_cons.mpr ⟨(xg_mi 422 (by decide +kernel) (by decide +kernel)), List.forall_mem_cons.mpr ⟨(xg_mi 423 (by decide +kernel) (by decide +kernel)), List.forall_mem_cons.mpr ⟨(xg_mi 424 (by decide +kernel) (by decide +kernel)), List.forall_mem_cons.mpr ⟨(xg_mi 61 (by decide +kernel) (by decide +kernel)), List.forall_mem_cons.mpr ⟨(xg_mi 425 (by decide +kernel) (by decide +kernel)), fun _ h => absurd h List.not_mem_nil⟩⟩⟩⟩⟩
theorem cw_X4_263 : ∀ w ∈ [Cond.methodLink RX4 263 mX1_gild.1, .instanceMethod mX1_gild.1, .selects mX1_gild.1.cls mX1_gild.1 mX1_gild.1, .initialized mX1_gild.1.cls, xg_cd mX1_gild], w ∈ xg_tb := List.forall_mem_cons.mpr ⟨(xg_mi 501 (by decide +kernel) (by decide +kernel)), List.forall_mem_cons.mpr ⟨(xg_mi 502 (by decide +kernel) (by decide +kernel)), List.forall_mem_cons.mpr ⟨(xg_mi 503 (by decide +kernel) (by decide +kernel)), List.forall_mem_cons.mpr ⟨(xg_mi 61 (by decide +kernel) (by decide +kernel)), List.forall_mem_cons.mpr ⟨(xg_mi 504 (by decide +kernel) (by decide +kernel)), fun _ h => absurd h List.not_mem_nil⟩⟩⟩⟩⟩
theorem cw_X4_267 : ∀ w ∈ [Cond.methodLink RX4 267 mJ9_max_7cf53.1, .static mJ9_max_7cf53.1, .initialized mJ9_max_7cf53.1.cls, xg_cd mJ9_max_7cf53], w ∈ xg_tb := List.forall_mem_cons.mpr ⟨(xg_mi 642 (by decide +kernel) (by decide +kernel)), List.forall_mem_cons.mpr ⟨(xg_mi 643 (by decide +kernel) (by decide +kernel)), List.forall_mem_cons.mpr ⟨(xg_mi 69 (by decide +kernel) (by decide +kernel)), List.forall_mem_cons.mpr ⟨(xg_mi 644 (by decide +kernel) (by decide +kernel)), fun _ h => absurd h List.not_mem_nil⟩⟩⟩⟩
theorem cw_X4_272 : ∀ w ∈ [Cond.methodLink RX4 272 mX4_thiefGain.1, .instanceMethod mX4_thiefGain.1, .selects mX4_thiefGain.1.cls mX4_thiefGain.1 mX4_thiefGain.1, .initialized mX4_thiefGain.1.cls, xg_cd mX4_thiefGain], w ∈ xg_tb := List.forall_mem_cons.mpr ⟨(xg_mi 638 (by decide +kernel) (by decide +kernel)), List.forall_mem_cons.mpr ⟨(xg_mi 640 (by decide +kernel) (by decide +kernel)), List.forall_mem_cons.mpr ⟨(xg_mi 17 (by decide +kernel) (by decide +kernel)), List.forall_mem_cons.mpr ⟨(xg_mi 58 (by decide +kernel) (by decide +kernel)), List.forall_mem_cons.mpr ⟨(xg_mi 641 (by decide +kernel) (by decide +kernel)), fun _ h => absurd h List.not_mem_nil⟩⟩⟩⟩⟩
theorem cw_X5_66 : ∀ w ∈ [Cond.methodLink RX5 66 mX5_plain.1, .instanceMethod mX5_plain.1, .selects mX5_plain.1.cls mX5_plain.1 mX5_plain.1, .initialized mX5_plain.1.cls, xg_cd mX5_plain], w ∈ xg_tb := List.forall_mem_cons.mpr ⟨(xg_mi 699 (by decide +kernel) (by decide +kernel)), List.forall_mem_cons.mpr ⟨(xg_mi 701 (by decide +kernel) (by decide +kernel)), List.forall_mem_cons.mpr ⟨(xg_mi 22 (by decide +kernel) (by decide +kernel)), List.forall_mem_cons.mpr ⟨(xg_mi 63 (by decide +kernel) (by decide +kernel)), List.forall_mem_cons.mpr ⟨(xg_mi 702 (by decide +kernel) (by decide +kernel)), fun _ h => absurd h List.not_mem_nil⟩⟩⟩⟩⟩
theorem cw_X5_69 : ∀ w ∈ [Cond.methodLink RX5 69 mX5_begin.1, .instanceMethod mX5_begin.1, .selects mX5_begin.1.cls mX5_begin.1 mX5_begin.1, .initialized mX5_begin.1.cls, xg_cd mX5_begin], w ∈ xg_tb := List.forall_mem_cons.mpr ⟨(xg_mi 703 (by decide +kernel) (by decide +kernel)), List.forall_mem_cons.mpr ⟨(xg_mi 705 (by decide +kernel) (by decide +kernel)), List.forall_mem_cons.mpr ⟨(xg_mi 23 (by decide +kernel) (by decide +kernel)), List.forall_mem_cons.mpr ⟨(xg_mi 63 (by decide +kernel) (by decide +kernel)), List.forall_mem_cons.mpr ⟨(xg_mi 706 (by decide +kernel) (by decide +kernel)), fun _ h => absurd h List.not_mem_nil⟩⟩⟩⟩⟩
theorem cw_X5_87 : ∀ w ∈ [Cond.methodLink RX5 87 mX5_in.1, .static mX5_in.1, .initialized mX5_in.1.cls, xg_cd mX5_in], w ∈ xg_tb := List.forall_mem_cons.mpr ⟨(xg_mi 812 (by decide +kernel) (by decide +kernel)), List.forall_mem_cons.mpr ⟨(xg_mi 813 (by decide +kernel) (by decide +kernel)), List.forall_mem_cons.mpr ⟨(xg_mi 63 (by decide +kernel) (by decide +kernel)), List.forall_mem_cons.mpr ⟨(xg_mi 814 (by decide +kernel) (by decide +kernel)), fun _ h => absurd h List.not_mem_nil⟩⟩⟩⟩
theorem cw_X5_125 : ∀ w ∈ [Cond.methodLink RX5 125 mX5_nextToken.1, .instanceMethod mX5_nextToken.1, .selects mX5_nextToken.1.cls mX5_nextToken.1 mX5_nextToken.1, .initialized mX5_nextToken.1.cls, xg_cd mX5_nextToken], w ∈ xg_tb := List.forall_mem_cons.mpr ⟨(xg_mi 831 (by decide +kernel) (by decide +kernel)), List.forall_mem_cons.mpr ⟨(xg_mi 833 (by decide +kernel) (by decide +kernel)), List.forall_mem_cons.mpr ⟨(xg_mi 26 (by decide +kernel) (by decide +kernel)), List.forall_mem_cons.mpr ⟨(xg_mi 63 (by decide +kernel) (by decide +kernel)), List.forall_mem_cons.mpr ⟨(xg_mi 834 (by decide +kernel) (by decide +kernel)), fun _ h => absurd h List.not_mem_nil⟩⟩⟩⟩⟩
theorem cw_X5_128 : ∀ w ∈ [Cond.methodLink RX5 128 mX5_fails.1, .instanceMethod mX5_fails.1, .selects mX5_fails.1.cls mX5_fails.1 mX5_fails.1, .initialized mX5_fails.1.cls, xg_cd mX5_fails], w ∈ xg_tb := List.forall_mem_cons.mpr ⟨(xg_mi 856 (by decide +kernel) (by decide +kernel)), List.forall_mem_cons.mpr ⟨(xg_mi 858 (by decide +kernel) (by decide +kernel)), List.forall_mem_cons.mpr ⟨(xg_mi 28 (by decide +kernel) (by decide +kernel)), List.forall_mem_cons.mpr ⟨(xg_mi 63 (by decide +kernel) (by decide +kernel)), List.forall_mem_cons.mpr ⟨(xg_mi 859 (by decide +kernel) (by decide +kernel)), fun _ h => absurd h List.not_mem_nil⟩⟩⟩⟩⟩
theorem cw_X5_135 : ∀ w ∈ [Cond.methodLink RX5 135 mX5_isNumber.1, .instanceMethod mX5_isNumber.1, .selects mX5_isNumber.1.cls mX5_isNumber.1 mX5_isNumber.1, .initialized mX5_isNumber.1.cls, xg_cd mX5_isNumber], w ∈ xg_tb := List.forall_mem_cons.mpr ⟨(xg_mi 860 (by decide +kernel) (by decide +kernel)), List.forall_mem_cons.mpr ⟨(xg_mi 862 (by decide +kernel) (by decide +kernel)), List.forall_mem_cons.mpr ⟨(xg_mi 29 (by decide +kernel) (by decide +kernel)), List.forall_mem_cons.mpr ⟨(xg_mi 63 (by decide +kernel) (by decide +kernel)), List.forall_mem_cons.mpr ⟨(xg_mi 863 (by decide +kernel) (by decide +kernel)), fun _ h => absurd h List.not_mem_nil⟩⟩⟩⟩⟩
theorem cw_X5_160 : ∀ w ∈ [Cond.methodLink RX5 160 mX5_isThingLine.1, .instanceMethod mX5_isThingLine.1, .selects mX5_isThingLine.1.cls mX5_isThingLine.1 mX5_isThingLine.1, .initialized mX5_isThingLine.1.cls, xg_cd mX5_isThingLine], w ∈ xg_tb := List.forall_mem_cons.mpr ⟨(xg_mi 852 (by decide +kernel) (by decide +kernel)), List.forall_mem_cons.mpr ⟨(xg_mi 854 (by decide +kernel) (by decide +kernel)), List.forall_mem_cons.mpr ⟨(xg_mi 27 (by decide +kernel) (by decide +kernel)), List.forall_mem_cons.mpr ⟨(xg_mi 63 (by decide +kernel) (by decide +kernel)), List.forall_mem_cons.mpr ⟨(xg_mi 855 (by decide +kernel) (by decide +kernel)), fun _ h => absurd h List.not_mem_nil⟩⟩⟩⟩⟩
theorem cw_X5_167 : ∀ w ∈ [Cond.methodLink RX5 167 mX5_isLine.1, .instanceMethod mX5_isLine.1, .selects mX5_isLine.1.cls mX5_isLine.1 mX5_isLine.1, .initialized mX5_isLine.1.cls, xg_cd mX5_isLine], w ∈ xg_tb := List.forall_mem_cons.mpr ⟨(xg_mi 827 (by decide +kernel) (by decide +kernel)), List.forall_mem_cons.mpr ⟨(xg_mi 829 (by decide +kernel) (by decide +kernel)), List.forall_mem_cons.mpr ⟨(xg_mi 25 (by decide +kernel) (by decide +kernel)), List.forall_mem_cons.mpr ⟨(xg_mi 63 (by decide +kernel) (by decide +kernel)), List.forall_mem_cons.mpr ⟨(xg_mi 830 (by decide +kernel) (by decide +kernel)), fun _ h => absurd h List.not_mem_nil⟩⟩⟩⟩⟩
theorem cw_X5_170 : ∀ w ∈ [Cond.methodLink RX5 170 mX5_isRead.1, .instanceMethod mX5_isRead.1, .selects mX5_isRead.1.cls mX5_isRead.1 mX5_isRead.1, .initialized mX5_isRead.1.cls, xg_cd mX5_isRead], w ∈ xg_tb := List.forall_mem_cons.mpr ⟨(xg_mi 823 (by decide +kernel) (by decide +kernel)), List.forall_mem_cons.mpr ⟨(xg_mi 825 (by decide +kernel) (by decide +kernel)), List.forall_mem_cons.mpr ⟨(xg_mi 24 (by decide +kernel) (by decide +kernel)), List.forall_mem_cons.mpr ⟨(xg_mi 63 (by decide +kernel) (by decide +kernel)), List.forall_mem_cons.mpr ⟨(xg_mi 826 (by decide +kernel) (by decide +kernel)), fun _ h => absurd h List.not_mem_nil⟩⟩⟩⟩⟩
theorem cw_X5_173 : ∀ w ∈ [Cond.methodLink RX5 173 mX5_doLine.1, .instanceMethod mX5_doLine.1, .selects mX5_doLine.1.cls mX5_doLine.1 mX5_doLine.1, .initialized mX5_doLine.1.cls, xg_cd mX5_doLine], w ∈ xg_tb := List.forall_mem_cons.mpr ⟨(xg_mi 868 (by decide +kernel) (by decide +kernel)), List.forall_mem_cons.mpr ⟨(xg_mi 870 (by decide +kernel) (by decide +kernel)), List.forall_mem_cons.mpr ⟨(xg_mi 30 (by decide +kernel) (by decide +kernel)), List.forall_mem_cons.mpr ⟨(xg_mi 63 (by decide +kernel) (by decide +kernel)), List.forall_mem_cons.mpr ⟨(xg_mi 871 (by decide +kernel) (by decide +kernel)), fun _ h => absurd h List.not_mem_nil⟩⟩⟩⟩⟩
theorem cw_X5_177 : ∀ w ∈ [Cond.methodLink RX5 177 mX5_has.1, .static mX5_has.1, .initialized mX5_has.1.cls, xg_cd mX5_has], w ∈ xg_tb := List.forall_mem_cons.mpr ⟨(xg_mi 888 (by decide +kernel) (by decide +kernel)), List.forall_mem_cons.mpr ⟨(xg_mi 889 (by decide +kernel) (by decide +kernel)), List.forall_mem_cons.mpr ⟨(xg_mi 63 (by decide +kernel) (by decide +kernel)), List.forall_mem_cons.mpr ⟨(xg_mi 890 (by decide +kernel) (by decide +kernel)), fun _ h => absurd h List.not_mem_nil⟩⟩⟩⟩
theorem cw_X5_181 : ∀ w ∈ [Cond.methodLink RX5 181 mX5_floorOf.1, .instanceMethod mX5_floorOf.1, .selects mX5_floorOf.1.cls mX5_floorOf.1 mX5_floorOf.1, .initialized mX5_floorOf.1.cls, xg_cd mX5_floorOf], w ∈ xg_tb := List.forall_mem_cons.mpr ⟨(xg_mi 891 (by decide +kernel) (by decide +kernel)), List.forall_mem_cons.mpr ⟨(xg_mi 893 (by decide +kernel) (by decide +kernel)), List.forall_mem_cons.mpr ⟨(xg_mi 34 (by decide +kernel) (by decide +kernel)), List.forall_mem_cons.mpr ⟨(xg_mi 63 (by decide +kernel) (by decide +kernel)), List.forall_mem_cons.mpr ⟨(xg_mi 894 (by decide +kernel) (by decide +kernel)), fun _ h => absurd h List.not_mem_nil⟩⟩⟩⟩⟩
theorem cw_X5_185 : ∀ w ∈ [Cond.methodLink RX5 185 mX5_weighs.1, .instanceMethod mX5_weighs.1, .selects mX5_weighs.1.cls mX5_weighs.1 mX5_weighs.1, .initialized mX5_weighs.1.cls, xg_cd mX5_weighs], w ∈ xg_tb := List.forall_mem_cons.mpr ⟨(xg_mi 903 (by decide +kernel) (by decide +kernel)), List.forall_mem_cons.mpr ⟨(xg_mi 905 (by decide +kernel) (by decide +kernel)), List.forall_mem_cons.mpr ⟨(xg_mi 36 (by decide +kernel) (by decide +kernel)), List.forall_mem_cons.mpr ⟨(xg_mi 63 (by decide +kernel) (by decide +kernel)), List.forall_mem_cons.mpr ⟨(xg_mi 906 (by decide +kernel) (by decide +kernel)), fun _ h => absurd h List.not_mem_nil⟩⟩⟩⟩⟩
theorem cw_X5_189 : ∀ w ∈ [Cond.methodLink RX5 189 mX5_isThere.1, .instanceMethod mX5_isThere.1, .selects mX5_isThere.1.cls mX5_isThere.1 mX5_isThere.1, .initialized mX5_isThere.1.cls, xg_cd mX5_isThere], w ∈ xg_tb := List.forall_mem_cons.mpr ⟨(xg_mi 884 (by decide +kernel) (by decide +kernel)), List.forall_mem_cons.mpr ⟨(xg_mi 886 (by decide +kernel) (by decide +kernel)), List.forall_mem_cons.mpr ⟨(xg_mi 33 (by decide +kernel) (by decide +kernel)), List.forall_mem_cons.mpr ⟨(xg_mi 63 (by decide +kernel) (by decide +kernel)), List.forall_mem_cons.mpr ⟨(xg_mi 887 (by decide +kernel) (by decide +kernel)), fun _ h => absurd h List.not_mem_nil⟩⟩⟩⟩⟩
theorem cw_X5_193 : ∀ w ∈ [Cond.methodLink RX5 193 mX5_priceOf.1, .instanceMethod mX5_priceOf.1, .selects mX5_priceOf.1.cls mX5_priceOf.1 mX5_priceOf.1, .initialized mX5_priceOf.1.cls, xg_cd mX5_priceOf], w ∈ xg_tb := List.forall_mem_cons.mpr ⟨(xg_mi 880 (by decide +kernel) (by decide +kernel)), List.forall_mem_cons.mpr ⟨(xg_mi 882 (by decide +kernel) (by decide +kernel)), List.forall_mem_cons.mpr ⟨(xg_mi 32 (by decide +kernel) (by decide +kernel)), List.forall_mem_cons.mpr ⟨(xg_mi 63 (by decide +kernel) (by decide +kernel)), List.forall_mem_cons.mpr ⟨(xg_mi 883 (by decide +kernel) (by decide +kernel)), fun _ h => absurd h List.not_mem_nil⟩⟩⟩⟩⟩
theorem cw_X5_196 : ∀ w ∈ [Cond.methodLink RX5 196 mX5_isThing.1, .instanceMethod mX5_isThing.1, .selects mX5_isThing.1.cls mX5_isThing.1 mX5_isThing.1, .initialized mX5_isThing.1.cls, xg_cd mX5_isThing], w ∈ xg_tb := List.forall_mem_cons.mpr ⟨(xg_mi 876 (by decide +kernel) (by decide +kernel)), List.forall_mem_cons.mpr ⟨(xg_mi 878 (by decide +kernel) (by decide +kernel)), List.forall_mem_cons.mpr ⟨(xg_mi 31 (by decide +kernel) (by decide +kernel)), List.forall_mem_cons.mpr ⟨(xg_mi 63 (by decide +kernel) (by decide +kernel)), List.forall_mem_cons.mpr ⟨(xg_mi 879 (by decide +kernel) (by decide +kernel)), fun _ h => absurd h List.not_mem_nil⟩⟩⟩⟩⟩
theorem cw_X5_199 : ∀ w ∈ [Cond.methodLink RX5 199 mX5_kindOf.1, .instanceMethod mX5_kindOf.1, .selects mX5_kindOf.1.cls mX5_kindOf.1 mX5_kindOf.1, .initialized mX5_kindOf.1.cls, xg_cd mX5_kindOf], w ∈ xg_tb := List.forall_mem_cons.mpr ⟨(xg_mi 899 (by decide +kernel) (by decide +kernel)), List.forall_mem_cons.mpr ⟨(xg_mi 901 (by decide +kernel) (by decide +kernel)), List.forall_mem_cons.mpr ⟨(xg_mi 35 (by decide +kernel) (by decide +kernel)), List.forall_mem_cons.mpr ⟨(xg_mi 63 (by decide +kernel) (by decide +kernel)), List.forall_mem_cons.mpr ⟨(xg_mi 902 (by decide +kernel) (by decide +kernel)), fun _ h => absurd h List.not_mem_nil⟩⟩⟩⟩⟩
theorem cw_X5_202 : ∀ w ∈ [Cond.methodLink RX5 202 mX5_isTask.1, .instanceMethod mX5_isTask.1, .selects mX5_isTask.1.cls mX5_isTask.1 mX5_isTask.1, .initialized mX5_isTask.1.cls, xg_cd mX5_isTask], w ∈ xg_tb := List.forall_mem_cons.mpr ⟨(xg_mi 919 (by decide +kernel) (by decide +kernel)), List.forall_mem_cons.mpr ⟨(xg_mi 921 (by decide +kernel) (by decide +kernel)), List.forall_mem_cons.mpr ⟨(xg_mi 39 (by decide +kernel) (by decide +kernel)), List.forall_mem_cons.mpr ⟨(xg_mi 63 (by decide +kernel) (by decide +kernel)), List.forall_mem_cons.mpr ⟨(xg_mi 922 (by decide +kernel) (by decide +kernel)), fun _ h => absurd h List.not_mem_nil⟩⟩⟩⟩⟩
theorem cw_X5_205 : ∀ w ∈ [Cond.methodLink RX5 205 mX5_loadOf.1, .instanceMethod mX5_loadOf.1, .selects mX5_loadOf.1.cls mX5_loadOf.1 mX5_loadOf.1, .initialized mX5_loadOf.1.cls, xg_cd mX5_loadOf], w ∈ xg_tb := List.forall_mem_cons.mpr ⟨(xg_mi 911 (by decide +kernel) (by decide +kernel)), List.forall_mem_cons.mpr ⟨(xg_mi 913 (by decide +kernel) (by decide +kernel)), List.forall_mem_cons.mpr ⟨(xg_mi 37 (by decide +kernel) (by decide +kernel)), List.forall_mem_cons.mpr ⟨(xg_mi 63 (by decide +kernel) (by decide +kernel)), List.forall_mem_cons.mpr ⟨(xg_mi 914 (by decide +kernel) (by decide +kernel)), fun _ h => absurd h List.not_mem_nil⟩⟩⟩⟩⟩
theorem cw_X5_208 : ∀ w ∈ [Cond.methodLink RX5 208 mX5_toolOf.1, .instanceMethod mX5_toolOf.1, .selects mX5_toolOf.1.cls mX5_toolOf.1 mX5_toolOf.1, .initialized mX5_toolOf.1.cls, xg_cd mX5_toolOf], w ∈ xg_tb := List.forall_mem_cons.mpr ⟨(xg_mi 915 (by decide +kernel) (by decide +kernel)), List.forall_mem_cons.mpr ⟨(xg_mi 917 (by decide +kernel) (by decide +kernel)), List.forall_mem_cons.mpr ⟨(xg_mi 38 (by decide +kernel) (by decide +kernel)), List.forall_mem_cons.mpr ⟨(xg_mi 63 (by decide +kernel) (by decide +kernel)), List.forall_mem_cons.mpr ⟨(xg_mi 918 (by decide +kernel) (by decide +kernel)), fun _ h => absurd h List.not_mem_nil⟩⟩⟩⟩⟩
theorem cw_X5_211 : ∀ w ∈ [Cond.methodLink RX5 211 mX5_handBehind.1, .instanceMethod mX5_handBehind.1, .selects mX5_handBehind.1.cls mX5_handBehind.1 mX5_handBehind.1, .initialized mX5_handBehind.1.cls, xg_cd mX5_handBehind], w ∈ xg_tb := List.forall_mem_cons.mpr ⟨(xg_mi 931 (by decide +kernel) (by decide +kernel)), List.forall_mem_cons.mpr ⟨(xg_mi 933 (by decide +kernel) (by decide +kernel)), List.forall_mem_cons.mpr ⟨(xg_mi 41 (by decide +kernel) (by decide +kernel)), List.forall_mem_cons.mpr ⟨(xg_mi 63 (by decide +kernel) (by decide +kernel)), List.forall_mem_cons.mpr ⟨(xg_mi 934 (by decide +kernel) (by decide +kernel)), fun _ h => absurd h List.not_mem_nil⟩⟩⟩⟩⟩
theorem cw_X5_214 : ∀ w ∈ [Cond.methodLink RX5 214 mX5_handIn.1, .instanceMethod mX5_handIn.1, .selects mX5_handIn.1.cls mX5_handIn.1 mX5_handIn.1, .initialized mX5_handIn.1.cls, xg_cd mX5_handIn], w ∈ xg_tb := List.forall_mem_cons.mpr ⟨(xg_mi 927 (by decide +kernel) (by decide +kernel)), List.forall_mem_cons.mpr ⟨(xg_mi 929 (by decide +kernel) (by decide +kernel)), List.forall_mem_cons.mpr ⟨(xg_mi 40 (by decide +kernel) (by decide +kernel)), List.forall_mem_cons.mpr ⟨(xg_mi 63 (by decide +kernel) (by decide +kernel)), List.forall_mem_cons.mpr ⟨(xg_mi 930 (by decide +kernel) (by decide +kernel)), fun _ h => absurd h List.not_mem_nil⟩⟩⟩⟩⟩
theorem cw_X5_218 : ∀ w ∈ [Cond.methodLink RX5 218 mX5_copy.1, .static mX5_copy.1, .initialized mX5_copy.1.cls, xg_cd mX5_copy], w ∈ xg_tb := List.forall_mem_cons.mpr ⟨(xg_mi 943 (by decide +kernel) (by decide +kernel)), List.forall_mem_cons.mpr ⟨(xg_mi 944 (by decide +kernel) (by decide +kernel)), List.forall_mem_cons.mpr ⟨(xg_mi 63 (by decide +kernel) (by decide +kernel)), List.forall_mem_cons.mpr ⟨(xg_mi 945 (by decide +kernel) (by decide +kernel)), fun _ h => absurd h List.not_mem_nil⟩⟩⟩⟩
theorem cw_X5_222 : ∀ w ∈ [Cond.methodLink RX5 222 mX5_note.1, .instanceMethod mX5_note.1, .selects mX5_note.1.cls mX5_note.1 mX5_note.1, .initialized mX5_note.1.cls, xg_cd mX5_note], w ∈ xg_tb := List.forall_mem_cons.mpr ⟨(xg_mi 939 (by decide +kernel) (by decide +kernel)), List.forall_mem_cons.mpr ⟨(xg_mi 941 (by decide +kernel) (by decide +kernel)), List.forall_mem_cons.mpr ⟨(xg_mi 42 (by decide +kernel) (by decide +kernel)), List.forall_mem_cons.mpr ⟨(xg_mi 63 (by decide +kernel) (by decide +kernel)), List.forall_mem_cons.mpr ⟨(xg_mi 942 (by decide +kernel) (by decide +kernel)), fun _ h => absurd h List.not_mem_nil⟩⟩⟩⟩⟩
theorem cw_X5_225 : ∀ w ∈ [Cond.methodLink RX5 225 mX5_touches.1, .instanceMethod mX5_touches.1, .selects mX5_touches.1.cls mX5_touches.1 mX5_touches.1, .initialized mX5_touches.1.cls, xg_cd mX5_touches], w ∈ xg_tb := List.forall_mem_cons.mpr ⟨(xg_mi 946 (by decide +kernel) (by decide +kernel)), List.forall_mem_cons.mpr ⟨(xg_mi 948 (by decide +kernel) (by decide +kernel)), List.forall_mem_cons.mpr ⟨(xg_mi 43 (by decide +kernel) (by decide +kernel)), List.forall_mem_cons.mpr ⟨(xg_mi 63 (by decide +kernel) (by decide +kernel)), List.forall_mem_cons.mpr ⟨(xg_mi 949 (by decide +kernel) (by decide +kernel)), fun _ h => absurd h List.not_mem_nil⟩⟩⟩⟩⟩
theorem cw_X5_228 : ∀ w ∈ [Cond.methodLink RX5 228 mX5_pass.1, .instanceMethod mX5_pass.1, .selects mX5_pass.1.cls mX5_pass.1 mX5_pass.1, .initialized mX5_pass.1.cls, xg_cd mX5_pass], w ∈ xg_tb := List.forall_mem_cons.mpr ⟨(xg_mi 950 (by decide +kernel) (by decide +kernel)), List.forall_mem_cons.mpr ⟨(xg_mi 952 (by decide +kernel) (by decide +kernel)), List.forall_mem_cons.mpr ⟨(xg_mi 44 (by decide +kernel) (by decide +kernel)), List.forall_mem_cons.mpr ⟨(xg_mi 63 (by decide +kernel) (by decide +kernel)), List.forall_mem_cons.mpr ⟨(xg_mi 953 (by decide +kernel) (by decide +kernel)), fun _ h => absurd h List.not_mem_nil⟩⟩⟩⟩⟩
theorem cw_X5_232 : ∀ w ∈ [Cond.methodLink RX5 232 mX5_isBy.1, .instanceMethod mX5_isBy.1, .selects mX5_isBy.1.cls mX5_isBy.1 mX5_isBy.1, .initialized mX5_isBy.1.cls, xg_cd mX5_isBy], w ∈ xg_tb := List.forall_mem_cons.mpr ⟨(xg_mi 958 (by decide +kernel) (by decide +kernel)), List.forall_mem_cons.mpr ⟨(xg_mi 960 (by decide +kernel) (by decide +kernel)), List.forall_mem_cons.mpr ⟨(xg_mi 45 (by decide +kernel) (by decide +kernel)), List.forall_mem_cons.mpr ⟨(xg_mi 63 (by decide +kernel) (by decide +kernel)), List.forall_mem_cons.mpr ⟨(xg_mi 961 (by decide +kernel) (by decide +kernel)), fun _ h => absurd h List.not_mem_nil⟩⟩⟩⟩⟩
theorem cw_X5_235 : ∀ w ∈ [Cond.methodLink RX5 235 mX5_tooLoaded.1, .instanceMethod mX5_tooLoaded.1, .selects mX5_tooLoaded.1.cls mX5_tooLoaded.1 mX5_tooLoaded.1, .initialized mX5_tooLoaded.1.cls, xg_cd mX5_tooLoaded], w ∈ xg_tb := List.forall_mem_cons.mpr ⟨(xg_mi 990 (by decide +kernel) (by decide +kernel)), List.forall_mem_cons.mpr ⟨(xg_mi 992 (by decide +kernel) (by decide +kernel)), List.forall_mem_cons.mpr ⟨(xg_mi 46 (by decide +kernel) (by decide +kernel)), List.forall_mem_cons.mpr ⟨(xg_mi 63 (by decide +kernel) (by decide +kernel)), List.forall_mem_cons.mpr ⟨(xg_mi 993 (by decide +kernel) (by decide +kernel)), fun _ h => absurd h List.not_mem_nil⟩⟩⟩⟩⟩
theorem cw_X5_239 : ∀ w ∈ [Cond.methodLink RX5 239 mX5_pricesOf.1, .instanceMethod mX5_pricesOf.1, .selects mX5_pricesOf.1.cls mX5_pricesOf.1 mX5_pricesOf.1, .initialized mX5_pricesOf.1.cls, xg_cd mX5_pricesOf], w ∈ xg_tb := List.forall_mem_cons.mpr ⟨(xg_mi 994 (by decide +kernel) (by decide +kernel)), List.forall_mem_cons.mpr ⟨(xg_mi 996 (by decide +kernel) (by decide +kernel)), List.forall_mem_cons.mpr ⟨(xg_mi 47 (by decide +kernel) (by decide +kernel)), List.forall_mem_cons.mpr ⟨(xg_mi 63 (by decide +kernel) (by decide +kernel)), List.forall_mem_cons.mpr ⟨(xg_mi 997 (by decide +kernel) (by decide +kernel)), fun _ h => absurd h List.not_mem_nil⟩⟩⟩⟩⟩
theorem cw_X5_242 : ∀ w ∈ [Cond.methodLink RX5 242 mX5_goldBy.1, .instanceMethod mX5_goldBy.1, .selects mX5_goldBy.1.cls mX5_goldBy.1 mX5_goldBy.1, .initialized mX5_goldBy.1.cls, xg_cd mX5_goldBy], w ∈ xg_tb := List.forall_mem_cons.mpr ⟨(xg_mi 1037 (by decide +kernel) (by decide +kernel)), List.forall_mem_cons.mpr ⟨(xg_mi 1039 (by decide +kernel) (by decide +kernel)), List.forall_mem_cons.mpr ⟨(xg_mi 51 (by decide +kernel) (by decide +kernel)), List.forall_mem_cons.mpr ⟨(xg_mi 63 (by decide +kernel) (by decide +kernel)), List.forall_mem_cons.mpr ⟨(xg_mi 1040 (by decide +kernel) (by decide +kernel)), fun _ h => absurd h List.not_mem_nil⟩⟩⟩⟩⟩
theorem cw_X5_246 : ∀ w ∈ [Cond.methodLink RX5 246 mX5_placeOf.1, .static mX5_placeOf.1, .initialized mX5_placeOf.1.cls, xg_cd mX5_placeOf], w ∈ xg_tb := List.forall_mem_cons.mpr ⟨(xg_mi 1041 (by decide +kernel) (by decide +kernel)), List.forall_mem_cons.mpr ⟨(xg_mi 1042 (by decide +kernel) (by decide +kernel)), List.forall_mem_cons.mpr ⟨(xg_mi 63 (by decide +kernel) (by decide +kernel)), List.forall_mem_cons.mpr ⟨(xg_mi 1043 (by decide +kernel) (by decide +kernel)), fun _ h => absurd h List.not_mem_nil⟩⟩⟩⟩
theorem cw_X5_249 : ∀ w ∈ [Cond.methodLink RX5 249 mX5_costBy.1, .instanceMethod mX5_costBy.1, .selects mX5_costBy.1.cls mX5_costBy.1 mX5_costBy.1, .initialized mX5_costBy.1.cls, xg_cd mX5_costBy], w ∈ xg_tb := List.forall_mem_cons.mpr ⟨(xg_mi 1048 (by decide +kernel) (by decide +kernel)), List.forall_mem_cons.mpr ⟨(xg_mi 1050 (by decide +kernel) (by decide +kernel)), List.forall_mem_cons.mpr ⟨(xg_mi 53 (by decide +kernel) (by decide +kernel)), List.forall_mem_cons.mpr ⟨(xg_mi 63 (by decide +kernel) (by decide +kernel)), List.forall_mem_cons.mpr ⟨(xg_mi 1051 (by decide +kernel) (by decide +kernel)), fun _ h => absurd h List.not_mem_nil⟩⟩⟩⟩⟩
theorem cw_X5_256 : ∀ w ∈ [Cond.methodLink RX5 256 mX5_deedAt.1, .static mX5_deedAt.1, .initialized mX5_deedAt.1.cls, xg_cd mX5_deedAt], w ∈ xg_tb := List.forall_mem_cons.mpr ⟨(xg_mi 1026 (by decide +kernel) (by decide +kernel)), List.forall_mem_cons.mpr ⟨(xg_mi 1027 (by decide +kernel) (by decide +kernel)), List.forall_mem_cons.mpr ⟨(xg_mi 63 (by decide +kernel) (by decide +kernel)), List.forall_mem_cons.mpr ⟨(xg_mi 1028 (by decide +kernel) (by decide +kernel)), fun _ h => absurd h List.not_mem_nil⟩⟩⟩⟩
theorem cw_X5_259 : ∀ w ∈ [Cond.methodLink RX5 259 mX5_canDo.1, .instanceMethod mX5_canDo.1, .selects mX5_canDo.1.cls mX5_canDo.1 mX5_canDo.1, .initialized mX5_canDo.1.cls, xg_cd mX5_canDo], w ∈ xg_tb := List.forall_mem_cons.mpr ⟨(xg_mi 1029 (by decide +kernel) (by decide +kernel)), List.forall_mem_cons.mpr ⟨(xg_mi 1031 (by decide +kernel) (by decide +kernel)), List.forall_mem_cons.mpr ⟨(xg_mi 49 (by decide +kernel) (by decide +kernel)), List.forall_mem_cons.mpr ⟨(xg_mi 63 (by decide +kernel) (by decide +kernel)), List.forall_mem_cons.mpr ⟨(xg_mi 1032 (by decide +kernel) (by decide +kernel)), fun _ h => absurd h List.not_mem_nil⟩⟩⟩⟩⟩
theorem cw_X5_262 : ∀ w ∈ [Cond.methodLink RX5 262 mX5_behind.1, .instanceMethod mX5_behind.1, .selects mX5_behind.1.cls mX5_behind.1 mX5_behind.1, .initialized mX5_behind.1.cls, xg_cd mX5_behind], w ∈ xg_tb := List.forall_mem_cons.mpr ⟨(xg_mi 1033 (by decide +kernel) (by decide +kernel)), List.forall_mem_cons.mpr ⟨(xg_mi 1035 (by decide +kernel) (by decide +kernel)), List.forall_mem_cons.mpr ⟨(xg_mi 50 (by decide +kernel) (by decide +kernel)), List.forall_mem_cons.mpr ⟨(xg_mi 63 (by decide +kernel) (by decide +kernel)), List.forall_mem_cons.mpr ⟨(xg_mi 1036 (by decide +kernel) (by decide +kernel)), fun _ h => absurd h List.not_mem_nil⟩⟩⟩⟩⟩
theorem cw_X5_266 : ∀ w ∈ [Cond.methodLink RX5 266 mX5_costOf.1, .instanceMethod mX5_costOf.1, .selects mX5_costOf.1.cls mX5_costOf.1 mX5_costOf.1, .initialized mX5_costOf.1.cls, xg_cd mX5_costOf], w ∈ xg_tb := List.forall_mem_cons.mpr ⟨(xg_mi 1044 (by decide +kernel) (by decide +kernel)), List.forall_mem_cons.mpr ⟨(xg_mi 1046 (by decide +kernel) (by decide +kernel)), List.forall_mem_cons.mpr ⟨(xg_mi 52 (by decide +kernel) (by decide +kernel)), List.forall_mem_cons.mpr ⟨(xg_mi 63 (by decide +kernel) (by decide +kernel)), List.forall_mem_cons.mpr ⟨(xg_mi 1047 (by decide +kernel) (by decide +kernel)), fun _ h => absurd h List.not_mem_nil⟩⟩⟩⟩⟩
theorem cw_X5_269 : ∀ w ∈ [Cond.methodLink RX5 269 mX5_layPlans.1, .instanceMethod mX5_layPlans.1, .selects mX5_layPlans.1.cls mX5_layPlans.1 mX5_layPlans.1, .initialized mX5_layPlans.1.cls, xg_cd mX5_layPlans], w ∈ xg_tb := List.forall_mem_cons.mpr ⟨(xg_mi 1022 (by decide +kernel) (by decide +kernel)), List.forall_mem_cons.mpr ⟨(xg_mi 1024 (by decide +kernel) (by decide +kernel)), List.forall_mem_cons.mpr ⟨(xg_mi 48 (by decide +kernel) (by decide +kernel)), List.forall_mem_cons.mpr ⟨(xg_mi 63 (by decide +kernel) (by decide +kernel)), List.forall_mem_cons.mpr ⟨(xg_mi 1025 (by decide +kernel) (by decide +kernel)), fun _ h => absurd h List.not_mem_nil⟩⟩⟩⟩⟩
theorem cw_X5_272 : ∀ w ∈ [Cond.methodLink RX5 272 mX5_pricesIn.1, .instanceMethod mX5_pricesIn.1, .selects mX5_pricesIn.1.cls mX5_pricesIn.1 mX5_pricesIn.1, .initialized mX5_pricesIn.1.cls, xg_cd mX5_pricesIn], w ∈ xg_tb := List.forall_mem_cons.mpr ⟨(xg_mi 1056 (by decide +kernel) (by decide +kernel)), List.forall_mem_cons.mpr ⟨(xg_mi 1058 (by decide +kernel) (by decide +kernel)), List.forall_mem_cons.mpr ⟨(xg_mi 54 (by decide +kernel) (by decide +kernel)), List.forall_mem_cons.mpr ⟨(xg_mi 63 (by decide +kernel) (by decide +kernel)), List.forall_mem_cons.mpr ⟨(xg_mi 1059 (by decide +kernel) (by decide +kernel)), fun _ h => absurd h List.not_mem_nil⟩⟩⟩⟩⟩
theorem cw_X5_275 : ∀ w ∈ [Cond.methodLink RX5 275 mX5_lootOf.1, .instanceMethod mX5_lootOf.1, .selects mX5_lootOf.1.cls mX5_lootOf.1 mX5_lootOf.1, .initialized mX5_lootOf.1.cls, xg_cd mX5_lootOf], w ∈ xg_tb := List.forall_mem_cons.mpr ⟨(xg_mi 1068 (by decide +kernel) (by decide +kernel)), List.forall_mem_cons.mpr ⟨(xg_mi 1070 (by decide +kernel) (by decide +kernel)), List.forall_mem_cons.mpr ⟨(xg_mi 55 (by decide +kernel) (by decide +kernel)), List.forall_mem_cons.mpr ⟨(xg_mi 63 (by decide +kernel) (by decide +kernel)), List.forall_mem_cons.mpr ⟨(xg_mi 1071 (by decide +kernel) (by decide +kernel)), fun _ h => absurd h List.not_mem_nil⟩⟩⟩⟩⟩
theorem cw_X5_278 : ∀ w ∈ [Cond.methodLink RX5 278 mX5_isGold.1, .instanceMethod mX5_isGold.1, .selects mX5_isGold.1.cls mX5_isGold.1 mX5_isGold.1, .initialized mX5_isGold.1.cls, xg_cd mX5_isGold], w ∈ xg_tb := List.forall_mem_cons.mpr ⟨(xg_mi 1084 (by decide +kernel) (by decide +kernel)), List.forall_mem_cons.mpr ⟨(xg_mi 1086 (by decide +kernel) (by decide +kernel)), List.forall_mem_cons.mpr ⟨(xg_mi 56 (by decide +kernel) (by decide +kernel)), List.forall_mem_cons.mpr ⟨(xg_mi 63 (by decide +kernel) (by decide +kernel)), List.forall_mem_cons.mpr ⟨(xg_mi 1087 (by decide +kernel) (by decide +kernel)), fun _ h => absurd h List.not_mem_nil⟩⟩⟩⟩⟩
theorem cw_X5_281 : ∀ w ∈ [Cond.methodLink RX5 281 mX5_bits.1, .static mX5_bits.1, .initialized mX5_bits.1.cls, xg_cd mX5_bits], w ∈ xg_tb := List.forall_mem_cons.mpr ⟨(xg_mi 1092 (by decide +kernel) (by decide +kernel)), List.forall_mem_cons.mpr ⟨(xg_mi 1093 (by decide +kernel) (by decide +kernel)), List.forall_mem_cons.mpr ⟨(xg_mi 63 (by decide +kernel) (by decide +kernel)), List.forall_mem_cons.mpr ⟨(xg_mi 1094 (by decide +kernel) (by decide +kernel)), fun _ h => absurd h List.not_mem_nil⟩⟩⟩⟩
theorem ci_J6_265 : Cond.constant RJ6 265 (1431655765) ∈ xg_tb := (xg_mi 587 (by decide +kernel) (by decide +kernel))
theorem ci_J6_266 : Cond.constant RJ6 266 (858993459) ∈ xg_tb := (xg_mi 588 (by decide +kernel) (by decide +kernel))
theorem ci_J6_267 : Cond.constant RJ6 267 (252645135) ∈ xg_tb := (xg_mi 589 (by decide +kernel) (by decide +kernel))
theorem ci_X2_15 : Cond.constant RX2 15 (1048576) ∈ xg_tb := (xg_mi 602 (by decide +kernel) (by decide +kernel))
theorem ci_X4_231 : Cond.constant RX4 231 (16777216) ∈ xg_tb := (xg_mi 665 (by decide +kernel) (by decide +kernel))
theorem cl_X4_238 : Cond.constantLong RX4 238 (-3) ∈ xg_tb := (xg_mi 682 (by decide +kernel) (by decide +kernel))
theorem cl_X5_106 : Cond.constantLong RX5 106 (-2) ∈ xg_tb := (xg_mi 835 (by decide +kernel) (by decide +kernel))
theorem cl_X5_112 : Cond.constantLong RX5 112 (27) ∈ xg_tb := (xg_mi 836 (by decide +kernel) (by decide +kernel))
theorem cl_X5_114 : Cond.constantLong RX5 114 (96) ∈ xg_tb := (xg_mi 837 (by decide +kernel) (by decide +kernel))
theorem cl_X5_116 : Cond.constantLong RX5 116 (-4) ∈ xg_tb := (xg_mi 838 (by decide +kernel) (by decide +kernel))
theorem cl_X5_118 : Cond.constantLong RX5 118 (-1) ∈ xg_tb := (xg_mi 839 (by decide +kernel) (by decide +kernel))
theorem cl_X5_120 : Cond.constantLong RX5 120 (-3) ∈ xg_tb := (xg_mi 840 (by decide +kernel) (by decide +kernel))
theorem cl_X5_138 : Cond.constantLong RX5 138 (82408) ∈ xg_tb := (xg_mi 841 (by decide +kernel) (by decide +kernel))
theorem cl_X5_140 : Cond.constantLong RX5 140 (405012) ∈ xg_tb := (xg_mi 842 (by decide +kernel) (by decide +kernel))
theorem cl_X5_142 : Cond.constantLong RX5 142 (139055) ∈ xg_tb := (xg_mi 843 (by decide +kernel) (by decide +kernel))
theorem cl_X5_144 : Cond.constantLong RX5 144 (1168243) ∈ xg_tb := (xg_mi 844 (by decide +kernel) (by decide +kernel))
theorem cl_X5_146 : Cond.constantLong RX5 146 (129442) ∈ xg_tb := (xg_mi 845 (by decide +kernel) (by decide +kernel))
theorem cl_X5_148 : Cond.constantLong RX5 148 (1905383) ∈ xg_tb := (xg_mi 846 (by decide +kernel) (by decide +kernel))
theorem cl_X5_150 : Cond.constantLong RX5 150 (1162531) ∈ xg_tb := (xg_mi 847 (by decide +kernel) (by decide +kernel))
theorem cl_X5_152 : Cond.constantLong RX5 152 (453959) ∈ xg_tb := (xg_mi 848 (by decide +kernel) (by decide +kernel))
theorem cl_X5_154 : Cond.constantLong RX5 154 (1758684) ∈ xg_tb := (xg_mi 849 (by decide +kernel) (by decide +kernel))
theorem cl_X5_156 : Cond.constantLong RX5 156 (286916) ∈ xg_tb := (xg_mi 850 (by decide +kernel) (by decide +kernel))
theorem cl_X5_158 : Cond.constantLong RX5 158 (40586) ∈ xg_tb := (xg_mi 851 (by decide +kernel) (by decide +kernel))
theorem cl_X5_284 : Cond.constantLong RX5 284 (10) ∈ xg_tb := (xg_mi 1099 (by decide +kernel) (by decide +kernel))
theorem gs_J0_38 : Cond.fieldLink RJ0 38 RJ0 "COMPACT_STRINGS" "Z" ∈ xg_tb := (xg_mi 346 (by decide +kernel) (by decide +kernel))
theorem gs_X3_51 : Cond.fieldLink RX3 51 RX3 "NUMBERS" "[I" ∈ xg_tb := (xg_mi 386 (by decide +kernel) (by decide +kernel))
theorem gs_X4_115 : Cond.fieldLink RX4 115 RX4 "KIND_ABOVE" "[I" ∈ xg_tb := (xg_mi 455 (by decide +kernel) (by decide +kernel))
end
