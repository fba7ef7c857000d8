section
-- ===== PART A: goes FIRST, ahead of the names: the tables' words, and 'selects' of the private methods out of them =====
/-- a private method of a class that the tables say can be made, by its rows of tables_1 -/
def lw_okq (q : MethodName × Nat) : Prop := (q.1.cls ≠ "java/lang/invoke/MethodHandle" ∧ q.1.cls ≠ "java/lang/invoke/VarHandle") ∧ Cond.instantiable q.1.cls q.2 ∈ tables_1 ∧ Cond.privateMethod q.1 ∈ tables_1 ∧ Cond.instanceMethod q.1 ∈ tables_1
theorem lw_p0 : lw_okq (⟨"ButtressWall", "layText", "()I"⟩, 11) := ⟨⟨by decide +kernel, by decide +kernel⟩, List.mem_of_getElem? (i := 19) (by decide +kernel), List.mem_of_getElem? (i := 291) (by decide +kernel), List.mem_of_getElem? (i := 292) (by decide +kernel)⟩
theorem lw_p1 : lw_okq (⟨"ButtressWall$Reader", "readItem", "(LButtressWall$Text;LButtressWall$Wall;)Z"⟩, 2) := ⟨⟨by decide +kernel, by decide +kernel⟩, List.mem_of_getElem? (i := 43) (by decide +kernel), List.mem_of_getElem? (i := 303) (by decide +kernel), List.mem_of_getElem? (i := 304) (by decide +kernel)⟩
theorem lw_p2 : lw_okq (⟨"ButtressWall$Reader", "readNumber", "(LButtressWall$Text;I)Z"⟩, 2) := ⟨⟨by decide +kernel, by decide +kernel⟩, List.mem_of_getElem? (i := 43) (by decide +kernel), List.mem_of_getElem? (i := 314) (by decide +kernel), List.mem_of_getElem? (i := 315) (by decide +kernel)⟩
theorem lw_p3 : lw_okq (⟨"ButtressWall$Reader", "takeItem", "(CLButtressWall$Wall;)Z"⟩, 2) := ⟨⟨by decide +kernel, by decide +kernel⟩, List.mem_of_getElem? (i := 43) (by decide +kernel), List.mem_of_getElem? (i := 321) (by decide +kernel), List.mem_of_getElem? (i := 322) (by decide +kernel)⟩
theorem lw_p4 : lw_okq (⟨"ButtressWall", "standingBay", "(II)I"⟩, 11) := ⟨⟨by decide +kernel, by decide +kernel⟩, List.mem_of_getElem? (i := 19) (by decide +kernel), List.mem_of_getElem? (i := 421) (by decide +kernel), List.mem_of_getElem? (i := 422) (by decide +kernel)⟩
theorem lw_p5 : lw_okq (⟨"ButtressWall$Clock", "weighRaised", "(LButtressWall$Wall;LButtressWall$State;)V"⟩, 3) := ⟨⟨by decide +kernel, by decide +kernel⟩, List.mem_of_getElem? (i := 57) (by decide +kernel), List.mem_of_getElem? (i := 429) (by decide +kernel), List.mem_of_getElem? (i := 430) (by decide +kernel)⟩
theorem lw_p6 : lw_okq (⟨"ButtressWall$Clock", "lent", "(LButtressWall$Wall;LButtressWall$State;I)I"⟩, 3) := ⟨⟨by decide +kernel, by decide +kernel⟩, List.mem_of_getElem? (i := 57) (by decide +kernel), List.mem_of_getElem? (i := 442) (by decide +kernel), List.mem_of_getElem? (i := 443) (by decide +kernel)⟩
theorem lw_p7 : lw_okq (⟨"ButtressWall", "wouldHold", "(I)Z"⟩, 11) := ⟨⟨by decide +kernel, by decide +kernel⟩, List.mem_of_getElem? (i := 19) (by decide +kernel), List.mem_of_getElem? (i := 604) (by decide +kernel), List.mem_of_getElem? (i := 605) (by decide +kernel)⟩
theorem lw_p8 : lw_okq (⟨"ButtressWall", "wouldBreak", "(I)Z"⟩, 11) := ⟨⟨by decide +kernel, by decide +kernel⟩, List.mem_of_getElem? (i := 19) (by decide +kernel), List.mem_of_getElem? (i := 615) (by decide +kernel), List.mem_of_getElem? (i := 616) (by decide +kernel)⟩
theorem lw_p9 : lw_okq (⟨"ButtressWall$Rosters", "isHopeless", "(LButtressWall$Wall;LButtressWall$State;)Z"⟩, 4) := ⟨⟨by decide +kernel, by decide +kernel⟩, List.mem_of_getElem? (i := 132) (by decide +kernel), List.mem_of_getElem? (i := 629) (by decide +kernel), List.mem_of_getElem? (i := 630) (by decide +kernel)⟩
theorem lw_p10 : lw_okq (⟨"ButtressWall$Rosters", "tryHour", "(LButtressWall$Wall;III)V"⟩, 4) := ⟨⟨by decide +kernel, by decide +kernel⟩, List.mem_of_getElem? (i := 132) (by decide +kernel), List.mem_of_getElem? (i := 635) (by decide +kernel), List.mem_of_getElem? (i := 636) (by decide +kernel)⟩
theorem lw_p11 : lw_okq (⟨"ButtressWall", "standsWithAt", "(II)I"⟩, 11) := ⟨⟨by decide +kernel, by decide +kernel⟩, List.mem_of_getElem? (i := 19) (by decide +kernel), List.mem_of_getElem? (i := 655) (by decide +kernel), List.mem_of_getElem? (i := 656) (by decide +kernel)⟩
theorem lw_p12 : lw_okq (⟨"ButtressWall", "standsWithStrength", "(II)I"⟩, 11) := ⟨⟨by decide +kernel, by decide +kernel⟩, List.mem_of_getElem? (i := 19) (by decide +kernel), List.mem_of_getElem? (i := 673) (by decide +kernel), List.mem_of_getElem? (i := 674) (by decide +kernel)⟩
theorem lw_p13 : lw_okq (⟨"ButtressWall", "wouldBeHeld", "(I)I"⟩, 11) := ⟨⟨by decide +kernel, by decide +kernel⟩, List.mem_of_getElem? (i := 19) (by decide +kernel), List.mem_of_getElem? (i := 685) (by decide +kernel), List.mem_of_getElem? (i := 686) (by decide +kernel)⟩
theorem lw_p14 : lw_okq (⟨"ButtressWall", "shirkWeight", "(II)I"⟩, 11) := ⟨⟨by decide +kernel, by decide +kernel⟩, List.mem_of_getElem? (i := 19) (by decide +kernel), List.mem_of_getElem? (i := 707) (by decide +kernel), List.mem_of_getElem? (i := 708) (by decide +kernel)⟩
theorem lw_p15 : lw_okq (⟨"ButtressWall", "standsWithShirkers", "(I)Z"⟩, 11) := ⟨⟨by decide +kernel, by decide +kernel⟩, List.mem_of_getElem? (i := 19) (by decide +kernel), List.mem_of_getElem? (i := 711) (by decide +kernel), List.mem_of_getElem? (i := 712) (by decide +kernel)⟩
def lw_privs_1 : List (MethodName × Nat) := [(⟨"ButtressWall", "layText", "()I"⟩, 11), (⟨"ButtressWall$Reader", "readItem", "(LButtressWall$Text;LButtressWall$Wall;)Z"⟩, 2), (⟨"ButtressWall$Reader", "readNumber", "(LButtressWall$Text;I)Z"⟩, 2), (⟨"ButtressWall$Reader", "takeItem", "(CLButtressWall$Wall;)Z"⟩, 2), (⟨"ButtressWall", "standingBay", "(II)I"⟩, 11), (⟨"ButtressWall$Clock", "weighRaised", "(LButtressWall$Wall;LButtressWall$State;)V"⟩, 3), (⟨"ButtressWall$Clock", "lent", "(LButtressWall$Wall;LButtressWall$State;I)I"⟩, 3), (⟨"ButtressWall", "wouldHold", "(I)Z"⟩, 11), (⟨"ButtressWall", "wouldBreak", "(I)Z"⟩, 11), (⟨"ButtressWall$Rosters", "isHopeless", "(LButtressWall$Wall;LButtressWall$State;)Z"⟩, 4), (⟨"ButtressWall$Rosters", "tryHour", "(LButtressWall$Wall;III)V"⟩, 4), (⟨"ButtressWall", "standsWithAt", "(II)I"⟩, 11), (⟨"ButtressWall", "standsWithStrength", "(II)I"⟩, 11), (⟨"ButtressWall", "wouldBeHeld", "(I)I"⟩, 11), (⟨"ButtressWall", "shirkWeight", "(II)I"⟩, 11), (⟨"ButtressWall", "standsWithShirkers", "(I)Z"⟩, 11)]
theorem lw_r1 : ∀ q ∈ lw_privs_1, lw_okq q := List.forall_mem_cons.mpr ⟨lw_p0, List.forall_mem_cons.mpr ⟨lw_p1, List.forall_mem_cons.mpr ⟨lw_p2, List.forall_mem_cons.mpr ⟨lw_p3, List.forall_mem_cons.mpr ⟨lw_p4, List.forall_mem_cons.mpr ⟨lw_p5, List.forall_mem_cons.mpr ⟨lw_p6, List.forall_mem_cons.mpr ⟨lw_p7, List.forall_mem_cons.mpr ⟨lw_p8, List.forall_mem_cons.mpr ⟨lw_p9, List.forall_mem_cons.mpr ⟨lw_p10, List.forall_mem_cons.mpr ⟨lw_p11, List.forall_mem_cons.mpr ⟨lw_p12, List.forall_mem_cons.mpr ⟨lw_p13, List.forall_mem_cons.mpr ⟨lw_p14, List.forall_mem_cons.mpr ⟨lw_p15, fun _ h => absurd h List.not_mem_nil⟩⟩⟩⟩⟩⟩⟩⟩⟩⟩⟩⟩⟩⟩⟩⟩
theorem lw_p16 : lw_okq (⟨"ButtressWallModel", "begins", "()V"⟩, 13) := ⟨⟨by decide +kernel, by decide +kernel⟩, List.mem_of_getElem? (i := 749) (by decide +kernel), List.mem_of_getElem? (i := 755) (by decide +kernel), List.mem_of_getElem? (i := 756) (by decide +kernel)⟩
theorem lw_p17 : lw_okq (⟨"ButtressWallModel", "bayOf", "(II)V"⟩, 13) := ⟨⟨by decide +kernel, by decide +kernel⟩, List.mem_of_getElem? (i := 749) (by decide +kernel), List.mem_of_getElem? (i := 759) (by decide +kernel), List.mem_of_getElem? (i := 760) (by decide +kernel)⟩
theorem lw_p18 : lw_okq (⟨"ButtressWallModel", "buttressOf", "(IIII)V"⟩, 13) := ⟨⟨by decide +kernel, by decide +kernel⟩, List.mem_of_getElem? (i := 749) (by decide +kernel), List.mem_of_getElem? (i := 763) (by decide +kernel), List.mem_of_getElem? (i := 764) (by decide +kernel)⟩
theorem lw_p19 : lw_okq (⟨"ButtressWallModel", "lays", "()V"⟩, 13) := ⟨⟨by decide +kernel, by decide +kernel⟩, List.mem_of_getElem? (i := 749) (by decide +kernel), List.mem_of_getElem? (i := 767) (by decide +kernel), List.mem_of_getElem? (i := 768) (by decide +kernel)⟩
theorem lw_p20 : lw_okq (⟨"ButtressWallModel", "readsAll", "()I"⟩, 13) := ⟨⟨by decide +kernel, by decide +kernel⟩, List.mem_of_getElem? (i := 749) (by decide +kernel), List.mem_of_getElem? (i := 826) (by decide +kernel), List.mem_of_getElem? (i := 827) (by decide +kernel)⟩
theorem lw_p21 : lw_okq (⟨"ButtressWallModel", "readsItem", "(I)Z"⟩, 13) := ⟨⟨by decide +kernel, by decide +kernel⟩, List.mem_of_getElem? (i := 749) (by decide +kernel), List.mem_of_getElem? (i := 830) (by decide +kernel), List.mem_of_getElem? (i := 831) (by decide +kernel)⟩
theorem lw_p22 : lw_okq (⟨"ButtressWallModel", "readsBay", "()Z"⟩, 13) := ⟨⟨by decide +kernel, by decide +kernel⟩, List.mem_of_getElem? (i := 749) (by decide +kernel), List.mem_of_getElem? (i := 834) (by decide +kernel), List.mem_of_getElem? (i := 835) (by decide +kernel)⟩
theorem lw_p23 : lw_okq (⟨"ButtressWallModel", "number", "(III)I"⟩, 13) := ⟨⟨by decide +kernel, by decide +kernel⟩, List.mem_of_getElem? (i := 749) (by decide +kernel), List.mem_of_getElem? (i := 838) (by decide +kernel), List.mem_of_getElem? (i := 839) (by decide +kernel)⟩
theorem lw_p24 : lw_okq (⟨"ButtressWallModel", "letterAt", "(I)I"⟩, 13) := ⟨⟨by decide +kernel, by decide +kernel⟩, List.mem_of_getElem? (i := 749) (by decide +kernel), List.mem_of_getElem? (i := 842) (by decide +kernel), List.mem_of_getElem? (i := 843) (by decide +kernel)⟩
theorem lw_p25 : lw_okq (⟨"ButtressWallModel", "readsButtress", "()Z"⟩, 13) := ⟨⟨by decide +kernel, by decide +kernel⟩, List.mem_of_getElem? (i := 749) (by decide +kernel), List.mem_of_getElem? (i := 849) (by decide +kernel), List.mem_of_getElem? (i := 850) (by decide +kernel)⟩
theorem lw_p26 : lw_okq (⟨"ButtressWallModel", "isBay", "(I)Z"⟩, 13) := ⟨⟨by decide +kernel, by decide +kernel⟩, List.mem_of_getElem? (i := 749) (by decide +kernel), List.mem_of_getElem? (i := 861) (by decide +kernel), List.mem_of_getElem? (i := 862) (by decide +kernel)⟩
theorem lw_p27 : lw_okq (⟨"ButtressWallModel", "hasFallen", "(I)Z"⟩, 13) := ⟨⟨by decide +kernel, by decide +kernel⟩, List.mem_of_getElem? (i := 749) (by decide +kernel), List.mem_of_getElem? (i := 865) (by decide +kernel), List.mem_of_getElem? (i := 866) (by decide +kernel)⟩
theorem lw_p28 : lw_okq (⟨"ButtressWallModel", "load", "(I)I"⟩, 13) := ⟨⟨by decide +kernel, by decide +kernel⟩, List.mem_of_getElem? (i := 749) (by decide +kernel), List.mem_of_getElem? (i := 872) (by decide +kernel), List.mem_of_getElem? (i := 873) (by decide +kernel)⟩
theorem lw_p29 : lw_okq (⟨"ButtressWallModel", "props", "(I)I"⟩, 13) := ⟨⟨by decide +kernel, by decide +kernel⟩, List.mem_of_getElem? (i := 749) (by decide +kernel), List.mem_of_getElem? (i := 876) (by decide +kernel), List.mem_of_getElem? (i := 877) (by decide +kernel)⟩
theorem lw_p30 : lw_okq (⟨"ButtressWallModel", "strengths", "(I)I"⟩, 13) := ⟨⟨by decide +kernel, by decide +kernel⟩, List.mem_of_getElem? (i := 749) (by decide +kernel), List.mem_of_getElem? (i := 880) (by decide +kernel), List.mem_of_getElem? (i := 881) (by decide +kernel)⟩
theorem lw_p31 : lw_okq (⟨"ButtressWallModel", "helps", "(I)I"⟩, 13) := ⟨⟨by decide +kernel, by decide +kernel⟩, List.mem_of_getElem? (i := 749) (by decide +kernel), List.mem_of_getElem? (i := 884) (by decide +kernel), List.mem_of_getElem? (i := 885) (by decide +kernel)⟩
def lw_privs_2 : List (MethodName × Nat) := [(⟨"ButtressWallModel", "begins", "()V"⟩, 13), (⟨"ButtressWallModel", "bayOf", "(II)V"⟩, 13), (⟨"ButtressWallModel", "buttressOf", "(IIII)V"⟩, 13), (⟨"ButtressWallModel", "lays", "()V"⟩, 13), (⟨"ButtressWallModel", "readsAll", "()I"⟩, 13), (⟨"ButtressWallModel", "readsItem", "(I)Z"⟩, 13), (⟨"ButtressWallModel", "readsBay", "()Z"⟩, 13), (⟨"ButtressWallModel", "number", "(III)I"⟩, 13), (⟨"ButtressWallModel", "letterAt", "(I)I"⟩, 13), (⟨"ButtressWallModel", "readsButtress", "()Z"⟩, 13), (⟨"ButtressWallModel", "isBay", "(I)Z"⟩, 13), (⟨"ButtressWallModel", "hasFallen", "(I)Z"⟩, 13), (⟨"ButtressWallModel", "load", "(I)I"⟩, 13), (⟨"ButtressWallModel", "props", "(I)I"⟩, 13), (⟨"ButtressWallModel", "strengths", "(I)I"⟩, 13), (⟨"ButtressWallModel", "helps", "(I)I"⟩, 13)]
theorem lw_r2 : ∀ q ∈ lw_privs_2, lw_okq q := List.forall_mem_cons.mpr ⟨lw_p16, List.forall_mem_cons.mpr ⟨lw_p17, List.forall_mem_cons.mpr ⟨lw_p18, List.forall_mem_cons.mpr ⟨lw_p19, List.forall_mem_cons.mpr ⟨lw_p20, List.forall_mem_cons.mpr ⟨lw_p21, List.forall_mem_cons.mpr ⟨lw_p22, List.forall_mem_cons.mpr ⟨lw_p23, List.forall_mem_cons.mpr ⟨lw_p24, List.forall_mem_cons.mpr ⟨lw_p25, List.forall_mem_cons.mpr ⟨lw_p26, List.forall_mem_cons.mpr ⟨lw_p27, List.forall_mem_cons.mpr ⟨lw_p28, List.forall_mem_cons.mpr ⟨lw_p29, List.forall_mem_cons.mpr ⟨lw_p30, List.forall_mem_cons.mpr ⟨lw_p31, fun _ h => absurd h List.not_mem_nil⟩⟩⟩⟩⟩⟩⟩⟩⟩⟩⟩⟩⟩⟩⟩⟩
theorem lw_p32 : lw_okq (⟨"ButtressWallModel", "isHeld", "(I)Z"⟩, 13) := ⟨⟨by decide +kernel, by decide +kernel⟩, List.mem_of_getElem? (i := 749) (by decide +kernel), List.mem_of_getElem? (i := 888) (by decide +kernel), List.mem_of_getElem? (i := 889) (by decide +kernel)⟩
theorem lw_p33 : lw_okq (⟨"ButtressWallModel", "isButtress", "(I)Z"⟩, 13) := ⟨⟨by decide +kernel, by decide +kernel⟩, List.mem_of_getElem? (i := 749) (by decide +kernel), List.mem_of_getElem? (i := 896) (by decide +kernel), List.mem_of_getElem? (i := 897) (by decide +kernel)⟩
theorem lw_p34 : lw_okq (⟨"ButtressWallModel", "areCarts", "(I)Z"⟩, 13) := ⟨⟨by decide +kernel, by decide +kernel⟩, List.mem_of_getElem? (i := 749) (by decide +kernel), List.mem_of_getElem? (i := 904) (by decide +kernel), List.mem_of_getElem? (i := 905) (by decide +kernel)⟩
theorem lw_p35 : lw_okq (⟨"ButtressWallModel", "keeps", "()V"⟩, 13) := ⟨⟨by decide +kernel, by decide +kernel⟩, List.mem_of_getElem? (i := 749) (by decide +kernel), List.mem_of_getElem? (i := 912) (by decide +kernel), List.mem_of_getElem? (i := 913) (by decide +kernel)⟩
theorem lw_p36 : lw_okq (⟨"ButtressWallModel", "passes", "()V"⟩, 13) := ⟨⟨by decide +kernel, by decide +kernel⟩, List.mem_of_getElem? (i := 749) (by decide +kernel), List.mem_of_getElem? (i := 916) (by decide +kernel), List.mem_of_getElem? (i := 917) (by decide +kernel)⟩
theorem lw_p37 : lw_okq (⟨"ButtressWallModel", "heldNow", "()I"⟩, 13) := ⟨⟨by decide +kernel, by decide +kernel⟩, List.mem_of_getElem? (i := 749) (by decide +kernel), List.mem_of_getElem? (i := 920) (by decide +kernel), List.mem_of_getElem? (i := 921) (by decide +kernel)⟩
theorem lw_p38 : lw_okq (⟨"ButtressWallModel", "isAlone", "(I)Z"⟩, 13) := ⟨⟨by decide +kernel, by decide +kernel⟩, List.mem_of_getElem? (i := 749) (by decide +kernel), List.mem_of_getElem? (i := 924) (by decide +kernel), List.mem_of_getElem? (i := 925) (by decide +kernel)⟩
theorem lw_p39 : lw_okq (⟨"ButtressWallModel", "mayDown", "(I)Z"⟩, 13) := ⟨⟨by decide +kernel, by decide +kernel⟩, List.mem_of_getElem? (i := 749) (by decide +kernel), List.mem_of_getElem? (i := 932) (by decide +kernel), List.mem_of_getElem? (i := 933) (by decide +kernel)⟩
theorem lw_p40 : lw_okq (⟨"ButtressWallModel", "isBarred", "(I)Z"⟩, 13) := ⟨⟨by decide +kernel, by decide +kernel⟩, List.mem_of_getElem? (i := 749) (by decide +kernel), List.mem_of_getElem? (i := 936) (by decide +kernel), List.mem_of_getElem? (i := 937) (by decide +kernel)⟩
theorem lw_p41 : lw_okq (⟨"ButtressWallModel", "mayUp", "(I)Z"⟩, 13) := ⟨⟨by decide +kernel, by decide +kernel⟩, List.mem_of_getElem? (i := 749) (by decide +kernel), List.mem_of_getElem? (i := 944) (by decide +kernel), List.mem_of_getElem? (i := 945) (by decide +kernel)⟩
theorem lw_p42 : lw_okq (⟨"ButtressWallModel", "holds", "()V"⟩, 13) := ⟨⟨by decide +kernel, by decide +kernel⟩, List.mem_of_getElem? (i := 749) (by decide +kernel), List.mem_of_getElem? (i := 960) (by decide +kernel), List.mem_of_getElem? (i := 961) (by decide +kernel)⟩
theorem lw_p43 : lw_okq (⟨"ButtressWallModel", "falls", "(I)I"⟩, 13) := ⟨⟨by decide +kernel, by decide +kernel⟩, List.mem_of_getElem? (i := 749) (by decide +kernel), List.mem_of_getElem? (i := 964) (by decide +kernel), List.mem_of_getElem? (i := 965) (by decide +kernel)⟩
theorem lw_p44 : lw_okq (⟨"ButtressWallModel", "lets", "()V"⟩, 13) := ⟨⟨by decide +kernel, by decide +kernel⟩, List.mem_of_getElem? (i := 749) (by decide +kernel), List.mem_of_getElem? (i := 968) (by decide +kernel), List.mem_of_getElem? (i := 969) (by decide +kernel)⟩
theorem lw_p45 : lw_okq (⟨"ButtressWallModel", "useful", "()I"⟩, 13) := ⟨⟨by decide +kernel, by decide +kernel⟩, List.mem_of_getElem? (i := 749) (by decide +kernel), List.mem_of_getElem? (i := 979) (by decide +kernel), List.mem_of_getElem? (i := 980) (by decide +kernel)⟩
theorem lw_p46 : lw_okq (⟨"ButtressWallModel", "isRoster", "(II)Z"⟩, 13) := ⟨⟨by decide +kernel, by decide +kernel⟩, List.mem_of_getElem? (i := 749) (by decide +kernel), List.mem_of_getElem? (i := 994) (by decide +kernel), List.mem_of_getElem? (i := 995) (by decide +kernel)⟩
theorem lw_p47 : lw_okq (⟨"ButtressWallModel", "rises", "(I)V"⟩, 13) := ⟨⟨by decide +kernel, by decide +kernel⟩, List.mem_of_getElem? (i := 749) (by decide +kernel), List.mem_of_getElem? (i := 1001) (by decide +kernel), List.mem_of_getElem? (i := 1002) (by decide +kernel)⟩
def lw_privs_3 : List (MethodName × Nat) := [(⟨"ButtressWallModel", "isHeld", "(I)Z"⟩, 13), (⟨"ButtressWallModel", "isButtress", "(I)Z"⟩, 13), (⟨"ButtressWallModel", "areCarts", "(I)Z"⟩, 13), (⟨"ButtressWallModel", "keeps", "()V"⟩, 13), (⟨"ButtressWallModel", "passes", "()V"⟩, 13), (⟨"ButtressWallModel", "heldNow", "()I"⟩, 13), (⟨"ButtressWallModel", "isAlone", "(I)Z"⟩, 13), (⟨"ButtressWallModel", "mayDown", "(I)Z"⟩, 13), (⟨"ButtressWallModel", "isBarred", "(I)Z"⟩, 13), (⟨"ButtressWallModel", "mayUp", "(I)Z"⟩, 13), (⟨"ButtressWallModel", "holds", "()V"⟩, 13), (⟨"ButtressWallModel", "falls", "(I)I"⟩, 13), (⟨"ButtressWallModel", "lets", "()V"⟩, 13), (⟨"ButtressWallModel", "useful", "()I"⟩, 13), (⟨"ButtressWallModel", "isRoster", "(II)Z"⟩, 13), (⟨"ButtressWallModel", "rises", "(I)V"⟩, 13)]
theorem lw_r3 : ∀ q ∈ lw_privs_3, lw_okq q := List.forall_mem_cons.mpr ⟨lw_p32, List.forall_mem_cons.mpr ⟨lw_p33, List.forall_mem_cons.mpr ⟨lw_p34, List.forall_mem_cons.mpr ⟨lw_p35, List.forall_mem_cons.mpr ⟨lw_p36, List.forall_mem_cons.mpr ⟨lw_p37, List.forall_mem_cons.mpr ⟨lw_p38, List.forall_mem_cons.mpr ⟨lw_p39, List.forall_mem_cons.mpr ⟨lw_p40, List.forall_mem_cons.mpr ⟨lw_p41, List.forall_mem_cons.mpr ⟨lw_p42, List.forall_mem_cons.mpr ⟨lw_p43, List.forall_mem_cons.mpr ⟨lw_p44, List.forall_mem_cons.mpr ⟨lw_p45, List.forall_mem_cons.mpr ⟨lw_p46, List.forall_mem_cons.mpr ⟨lw_p47, fun _ h => absurd h List.not_mem_nil⟩⟩⟩⟩⟩⟩⟩⟩⟩⟩⟩⟩⟩⟩⟩⟩
theorem lw_p48 : lw_okq (⟨"ButtressWallModel", "turn", "(I)V"⟩, 13) := ⟨⟨by decide +kernel, by decide +kernel⟩, List.mem_of_getElem? (i := 749) (by decide +kernel), List.mem_of_getElem? (i := 1032) (by decide +kernel), List.mem_of_getElem? (i := 1033) (by decide +kernel)⟩
def lw_privs_4 : List (MethodName × Nat) := [(⟨"ButtressWallModel", "turn", "(I)V"⟩, 13)]
theorem lw_r4 : ∀ q ∈ lw_privs_4, lw_okq q := List.forall_mem_cons.mpr ⟨lw_p48, fun _ h => absurd h List.not_mem_nil⟩
def lw_privs : List (MethodName × Nat) := lw_privs_1 ++ (lw_privs_2 ++ (lw_privs_3 ++ (lw_privs_4)))
def lw_tbl : List Cond := k2_sels lw_privs ++ tables_1
theorem lw_privs_ok : ∀ q ∈ lw_privs, lw_okq q := by
  show ∀ q ∈ lw_privs_1 ++ (lw_privs_2 ++ (lw_privs_3 ++ (lw_privs_4))), lw_okq q
  exact List.forall_mem_append.mpr ⟨lw_r1, List.forall_mem_append.mpr ⟨lw_r2, List.forall_mem_append.mpr ⟨lw_r3, lw_r4⟩⟩⟩

/-- the words that every contract of ours asks for -/
def big : List Cond := lw_tbl.filter goodWord
theorem big_in {w : Cond} (h : w ∈ big) : w ∈ lw_tbl := (List.mem_filter.mp h).1
theorem big_good {w : Cond} (h : w ∈ big) : (w.onTables && w.keeps) = true ∨ ∃ ty, w = .arrayClass ty := good_of_word (List.mem_filter.mp h).2
theorem big_of {w : Cond} (i : Nat) (h : lw_tbl[i]? = some w) (hg : goodWord w = true) : w ∈ big := List.mem_filter.mpr ⟨List.mem_of_getElem? h, hg⟩
end
section
def RX0 : String := "ButtressWall$Clock"
def TX0 : u_T := fun k => match k with
  | 0 => ("ButtressWall$Clock", "raised", "[I", true)
  | 1 => ("ButtressWall$Clock", "load", "[I", true)
  | _ => ("ButtressWall$Clock", "props", "[I", true)
def tyX0 : Nat → FieldType := fun k => match k with
  | 0 => .array .int
  | 1 => .array .int
  | _ => .array .int
theorem nmX0 : ∀ a, a < 3 → ∀ b, b < 3 → a ≠ b → (TX0 a).2.1 ≠ (TX0 b).2.1 := by decide +kernel
theorem tyX0_ok : ∀ k, k < 3 → parseFieldDescriptor (TX0 k).2.2.1 = some (tyX0 k) := by decide +kernel
abbrev cX0_init : ByteArray := prog_2_method_1_code
def yX0_init : MethodName := ⟨RX0, "<init>", "()V"⟩
abbrev cX0_heldBays : ByteArray := prog_2_method_2_code
def yX0_heldBays : MethodName := ⟨RX0, "heldBays", "(LButtressWall$Wall;LButtressWall$State;)I"⟩
abbrev cX0_weighRaised : ByteArray := prog_2_method_3_code
def yX0_weighRaised : MethodName := ⟨RX0, "weighRaised", "(LButtressWall$Wall;LButtressWall$State;)V"⟩
abbrev cX0_thrown : ByteArray := prog_2_method_4_code
def yX0_thrown : MethodName := ⟨RX0, "thrown", "(LButtressWall$Wall;LButtressWall$State;I)I"⟩
abbrev cX0_lent : ByteArray := prog_2_method_5_code
def yX0_lent : MethodName := ⟨RX0, "lent", "(LButtressWall$Wall;LButtressWall$State;I)I"⟩
abbrev cX0_goBy : ByteArray := prog_2_method_6_code
def yX0_goBy : MethodName := ⟨RX0, "goBy", "(LButtressWall$Wall;LButtressWall$State;)I"⟩
abbrev cX0_tiring : ByteArray := prog_2_method_7_code
def yX0_tiring : MethodName := ⟨RX0, "tiring", "(LButtressWall$Wall;LButtressWall$State;I)I"⟩
abbrev cX0_resting : ByteArray := prog_2_method_8_code
def yX0_resting : MethodName := ⟨RX0, "resting", "(LButtressWall$Wall;I)I"⟩
abbrev cX0_isAlone : ByteArray := prog_2_method_9_code
def yX0_isAlone : MethodName := ⟨RX0, "isAlone", "(LButtressWall$Wall;LButtressWall$State;I)Z"⟩
abbrev cX0_ageBays : ByteArray := prog_2_method_10_code
def yX0_ageBays : MethodName := ⟨RX0, "ageBays", "(LButtressWall$Wall;LButtressWall$State;I)I"⟩
abbrev cX0_leaveTired : ByteArray := prog_2_method_11_code
def yX0_leaveTired : MethodName := ⟨RX0, "leaveTired", "(LButtressWall$Wall;LButtressWall$State;Z)V"⟩
def RX1 : String := "ButtressWall$Reader"
def TX1 : u_T := fun k => match k with
  | 0 => ("ButtressWall$Reader", "numbers", "[I", true)
  | _ => ("ButtressWall$Reader", "next", "I", false)
def tyX1 : Nat → FieldType := fun k => match k with
  | 0 => .array .int
  | _ => .int
theorem nmX1 : ∀ a, a < 2 → ∀ b, b < 2 → a ≠ b → (TX1 a).2.1 ≠ (TX1 b).2.1 := by decide +kernel
theorem tyX1_ok : ∀ k, k < 2 → parseFieldDescriptor (TX1 k).2.2.1 = some (tyX1 k) := by decide +kernel
abbrev cX1_init : ByteArray := prog_3_method_1_code
def yX1_init : MethodName := ⟨RX1, "<init>", "()V"⟩
abbrev cX1_readWall : ByteArray := prog_3_method_2_code
def yX1_readWall : MethodName := ⟨RX1, "readWall", "(LButtressWall$Text;LButtressWall$Wall;)I"⟩
abbrev cX1_readItem : ByteArray := prog_3_method_3_code
def yX1_readItem : MethodName := ⟨RX1, "readItem", "(LButtressWall$Text;LButtressWall$Wall;)Z"⟩
abbrev cX1_readNumber : ByteArray := prog_3_method_4_code
def yX1_readNumber : MethodName := ⟨RX1, "readNumber", "(LButtressWall$Text;I)Z"⟩
abbrev cX1_takeItem : ByteArray := prog_3_method_5_code
def yX1_takeItem : MethodName := ⟨RX1, "takeItem", "(CLButtressWall$Wall;)Z"⟩
abbrev cX1_numbersBehind : ByteArray := prog_3_method_6_code
def yX1_numbersBehind : MethodName := ⟨RX1, "numbersBehind", "(C)I"⟩
abbrev cX1_figure : ByteArray := prog_3_method_7_code
def yX1_figure : MethodName := ⟨RX1, "figure", "(C)I"⟩
def RX2 : String := "ButtressWall$Rosters"
def TX2 : u_T := fun k => match k with
  | 0 => ("ButtressWall$Rosters", "clock", "LButtressWall$Clock;", true)
  | 1 => ("ButtressWall$Rosters", "ahead", "[LButtressWall$State;", true)
  | 2 => ("ButtressWall$Rosters", "hours", "I", false)
  | _ => ("ButtressWall$Rosters", "firstKey", "I", false)
def tyX2 : Nat → FieldType := fun k => match k with
  | 0 => .object "ButtressWall$Clock"
  | 1 => .array (.object "ButtressWall$State")
  | 2 => .int
  | _ => .int
theorem nmX2 : ∀ a, a < 4 → ∀ b, b < 4 → a ≠ b → (TX2 a).2.1 ≠ (TX2 b).2.1 := by decide +kernel
theorem tyX2_ok : ∀ k, k < 4 → parseFieldDescriptor (TX2 k).2.2.1 = some (tyX2 k) := by decide +kernel
abbrev cX2_init : ByteArray := prog_4_method_1_code
def yX2_init : MethodName := ⟨RX2, "<init>", "()V"⟩
abbrev cX2_findFirst : ByteArray := prog_4_method_2_code
def yX2_findFirst : MethodName := ⟨RX2, "findFirst", "(LButtressWall$Wall;LButtressWall$State;I)Z"⟩
abbrev cX2_isHopeless : ByteArray := prog_4_method_3_code
def yX2_isHopeless : MethodName := ⟨RX2, "isHopeless", "(LButtressWall$Wall;LButtressWall$State;)Z"⟩
abbrev cX2_hourOf : ByteArray := prog_4_method_4_code
def yX2_hourOf : MethodName := ⟨RX2, "hourOf", "(I)I"⟩
abbrev cX2_tryHour : ByteArray := prog_4_method_5_code
def yX2_tryHour : MethodName := ⟨RX2, "tryHour", "(LButtressWall$Wall;III)V"⟩
abbrev cX2_oneHourMore : ByteArray := prog_4_method_6_code
def yX2_oneHourMore : MethodName := ⟨RX2, "oneHourMore", "(I)I"⟩
abbrev cX2_figurePlace : ByteArray := prog_4_method_7_code
def yX2_figurePlace : MethodName := ⟨RX2, "figurePlace", "(I)I"⟩
def RX3 : String := "ButtressWall$State"
def TX3 : u_T := fun k => match k with
  | 0 => ("ButtressWall$State", "hour", "I", false)
  | 1 => ("ButtressWall$State", "up", "I", false)
  | 2 => ("ButtressWall$State", "fallen", "I", false)
  | 3 => ("ButtressWall$State", "bayOf", "[I", true)
  | 4 => ("ButtressWall$State", "tired", "[I", true)
  | _ => ("ButtressWall$State", "unheld", "[I", true)
def tyX3 : Nat → FieldType := fun k => match k with
  | 0 => .int
  | 1 => .int
  | 2 => .int
  | 3 => .array .int
  | 4 => .array .int
  | _ => .array .int
theorem nmX3 : ∀ a, a < 6 → ∀ b, b < 6 → a ≠ b → (TX3 a).2.1 ≠ (TX3 b).2.1 := by decide +kernel
theorem tyX3_ok : ∀ k, k < 6 → parseFieldDescriptor (TX3 k).2.2.1 = some (tyX3 k) := by decide +kernel
abbrev cX3_init : ByteArray := prog_5_method_1_code
def yX3_init : MethodName := ⟨RX3, "<init>", "()V"⟩
abbrev cX3_begin : ByteArray := prog_5_method_2_code
def yX3_begin : MethodName := ⟨RX3, "begin", "(LButtressWall$Wall;)V"⟩
abbrev cX3_takeFrom : ByteArray := prog_5_method_3_code
def yX3_takeFrom : MethodName := ⟨RX3, "takeFrom", "(LButtressWall$State;)V"⟩
abbrev cX3_isUp : ByteArray := prog_5_method_4_code
def yX3_isUp : MethodName := ⟨RX3, "isUp", "(I)Z"⟩
abbrev cX3_hasFallen : ByteArray := prog_5_method_5_code
def yX3_hasFallen : MethodName := ⟨RX3, "hasFallen", "(I)Z"⟩
abbrev cX3_comeDown : ByteArray := prog_5_method_6_code
def yX3_comeDown : MethodName := ⟨RX3, "comeDown", "(I)V"⟩
abbrev cX3_goUp : ByteArray := prog_5_method_7_code
def yX3_goUp : MethodName := ⟨RX3, "goUp", "(I)V"⟩
abbrev cX3_canComeDown : ByteArray := prog_5_method_8_code
def yX3_canComeDown : MethodName := ⟨RX3, "canComeDown", "(LButtressWall$Wall;I)Z"⟩
abbrev cX3_canGoUp : ByteArray := prog_5_method_9_code
def yX3_canGoUp : MethodName := ⟨RX3, "canGoUp", "(LButtressWall$Wall;I)Z"⟩
abbrev cX3_isScared : ByteArray := prog_5_method_10_code
def yX3_isScared : MethodName := ⟨RX3, "isScared", "(LButtressWall$Wall;I)Z"⟩
abbrev cX3_upAt : ByteArray := prog_5_method_11_code
def yX3_upAt : MethodName := ⟨RX3, "upAt", "(LButtressWall$Wall;I)I"⟩
abbrev cX3_allAtStanding : ByteArray := prog_5_method_12_code
def yX3_allAtStanding : MethodName := ⟨RX3, "allAtStanding", "(LButtressWall$Wall;I)Z"⟩
def RX4 : String := "ButtressWall$Text"
def TX4 : u_T := fun k => match k with
  | 0 => ("ButtressWall$Text", "letters", "[C", true)
  | _ => ("ButtressWall$Text", "length", "I", false)
def tyX4 : Nat → FieldType := fun k => match k with
  | 0 => .array .char
  | _ => .int
theorem nmX4 : ∀ a, a < 2 → ∀ b, b < 2 → a ≠ b → (TX4 a).2.1 ≠ (TX4 b).2.1 := by decide +kernel
theorem tyX4_ok : ∀ k, k < 2 → parseFieldDescriptor (TX4 k).2.2.1 = some (tyX4 k) := by decide +kernel
abbrev cX4_init : ByteArray := prog_6_method_1_code
def yX4_init : MethodName := ⟨RX4, "<init>", "()V"⟩
abbrev cX4_add : ByteArray := prog_6_method_2_code
def yX4_add : MethodName := ⟨RX4, "add", "(C)Z"⟩
abbrev cX4_letterAt : ByteArray := prog_6_method_3_code
def yX4_letterAt : MethodName := ⟨RX4, "letterAt", "(I)C"⟩
def RX5 : String := "ButtressWall$Trail"
def TX5 : u_T := fun k => match k with
  | 0 => ("ButtressWall$Trail", "states", "[LButtressWall$State;", true)
  | 1 => ("ButtressWall$Trail", "next", "I", false)
  | _ => ("ButtressWall$Trail", "size", "I", false)
def tyX5 : Nat → FieldType := fun k => match k with
  | 0 => .array (.object "ButtressWall$State")
  | 1 => .int
  | _ => .int
theorem nmX5 : ∀ a, a < 3 → ∀ b, b < 3 → a ≠ b → (TX5 a).2.1 ≠ (TX5 b).2.1 := by decide +kernel
theorem tyX5_ok : ∀ k, k < 3 → parseFieldDescriptor (TX5 k).2.2.1 = some (tyX5 k) := by decide +kernel
abbrev cX5_init : ByteArray := prog_7_method_1_code
def yX5_init : MethodName := ⟨RX5, "<init>", "()V"⟩
abbrev cX5_remember : ByteArray := prog_7_method_2_code
def yX5_remember : MethodName := ⟨RX5, "remember", "(LButtressWall$State;)V"⟩
abbrev cX5_restore : ByteArray := prog_7_method_3_code
def yX5_restore : MethodName := ⟨RX5, "restore", "(LButtressWall$State;)Z"⟩
abbrev cX5_forget : ByteArray := prog_7_method_4_code
def yX5_forget : MethodName := ⟨RX5, "forget", "()V"⟩
def RX6 : String := "ButtressWall$Trial"
def TX6 : u_T := fun k => match k with
  | 0 => ("ButtressWall$Trial", "then", "LButtressWall$State;", true)
  | 1 => ("ButtressWall$Trial", "clock", "LButtressWall$Clock;", true)
  | _ => ("ButtressWall$Trial", "fell", "I", false)
def tyX6 : Nat → FieldType := fun k => match k with
  | 0 => .object "ButtressWall$State"
  | 1 => .object "ButtressWall$Clock"
  | _ => .int
theorem nmX6 : ∀ a, a < 3 → ∀ b, b < 3 → a ≠ b → (TX6 a).2.1 ≠ (TX6 b).2.1 := by decide +kernel
theorem tyX6_ok : ∀ k, k < 3 → parseFieldDescriptor (TX6 k).2.2.1 = some (tyX6 k) := by decide +kernel
abbrev cX6_init : ByteArray := prog_8_method_1_code
def yX6_init : MethodName := ⟨RX6, "<init>", "()V"⟩
abbrev cX6_startFrom : ByteArray := prog_8_method_2_code
def yX6_startFrom : MethodName := ⟨RX6, "startFrom", "(LButtressWall$State;)V"⟩
abbrev cX6_fallsBehind : ByteArray := prog_8_method_3_code
def yX6_fallsBehind : MethodName := ⟨RX6, "fallsBehind", "(LButtressWall$Wall;I)I"⟩
abbrev cX6_lowestFell : ByteArray := prog_8_method_4_code
def yX6_lowestFell : MethodName := ⟨RX6, "lowestFell", "()I"⟩
abbrev cX6_standsFor : ByteArray := prog_8_method_5_code
def yX6_standsFor : MethodName := ⟨RX6, "standsFor", "(LButtressWall$Wall;)I"⟩
abbrev cX6_givesWayBehind : ByteArray := prog_8_method_6_code
def yX6_givesWayBehind : MethodName := ⟨RX6, "givesWayBehind", "(LButtressWall$Wall;II)Z"⟩
abbrev cX6_followDraw : ByteArray := prog_8_method_7_code
def yX6_followDraw : MethodName := ⟨RX6, "followDraw", "(LButtressWall$Wall;I)V"⟩
def RX7 : String := "ButtressWall$Wall"
def TX7 : u_T := fun k => match k with
  | 0 => ("ButtressWall$Wall", "bays", "I", false)
  | 1 => ("ButtressWall$Wall", "buttresses", "I", false)
  | 2 => ("ButtressWall$Wall", "cartHours", "I", false)
  | 3 => ("ButtressWall$Wall", "cartBits", "I", false)
  | 4 => ("ButtressWall$Wall", "downBits", "I", false)
  | 5 => ("ButtressWall$Wall", "thrust", "[I", true)
  | 6 => ("ButtressWall$Wall", "patience", "[I", true)
  | 7 => ("ButtressWall$Wall", "kind", "[I", true)
  | 8 => ("ButtressWall$Wall", "strength", "[I", true)
  | 9 => ("ButtressWall$Wall", "firstBay", "[I", true)
  | _ => ("ButtressWall$Wall", "bears", "[I", true)
def tyX7 : Nat → FieldType := fun k => match k with
  | 0 => .int
  | 1 => .int
  | 2 => .int
  | 3 => .int
  | 4 => .int
  | 5 => .array .int
  | 6 => .array .int
  | 7 => .array .int
  | 8 => .array .int
  | 9 => .array .int
  | _ => .array .int
theorem nmX7 : ∀ a, a < 11 → ∀ b, b < 11 → a ≠ b → (TX7 a).2.1 ≠ (TX7 b).2.1 := by decide +kernel
theorem tyX7_ok : ∀ k, k < 11 → parseFieldDescriptor (TX7 k).2.2.1 = some (tyX7 k) := by decide +kernel
abbrev cX7_init : ByteArray := prog_9_method_1_code
def yX7_init : MethodName := ⟨RX7, "<init>", "()V"⟩
abbrev cX7_clear : ByteArray := prog_9_method_2_code
def yX7_clear : MethodName := ⟨RX7, "clear", "()V"⟩
abbrev cX7_takeFrom : ByteArray := prog_9_method_3_code
def yX7_takeFrom : MethodName := ⟨RX7, "takeFrom", "(LButtressWall$Wall;)V"⟩
abbrev cX7_addBay : ByteArray := prog_9_method_4_code
def yX7_addBay : MethodName := ⟨RX7, "addBay", "(II)Z"⟩
abbrev cX7_addButtress : ByteArray := prog_9_method_5_code
def yX7_addButtress : MethodName := ⟨RX7, "addButtress", "(IIII)Z"⟩
abbrev cX7_addCarts : ByteArray := prog_9_method_6_code
def yX7_addCarts : MethodName := ⟨RX7, "addCarts", "(I)Z"⟩
abbrev cX7_addDown : ByteArray := prog_9_method_7_code
def yX7_addDown : MethodName := ⟨RX7, "addDown", "(I)Z"⟩
abbrev cX7_hasBay : ByteArray := prog_9_method_8_code
def yX7_hasBay : MethodName := ⟨RX7, "hasBay", "(I)Z"⟩
abbrev cX7_hasButtress : ByteArray := prog_9_method_9_code
def yX7_hasButtress : MethodName := ⟨RX7, "hasButtress", "(I)Z"⟩
abbrev cX7_hasCarts : ByteArray := prog_9_method_10_code
def yX7_hasCarts : MethodName := ⟨RX7, "hasCarts", "(I)Z"⟩
abbrev cX7_allBays : ByteArray := prog_9_method_11_code
def yX7_allBays : MethodName := ⟨RX7, "allBays", "()I"⟩
abbrev cX7_allButtresses : ByteArray := prog_9_method_12_code
def yX7_allButtresses : MethodName := ⟨RX7, "allButtresses", "()I"⟩
def RX8 : String := "ButtressWall"
def TX8 : u_T := fun k => match k with
  | 0 => ("ButtressWall", "text", "LButtressWall$Text;", true)
  | 1 => ("ButtressWall", "reader", "LButtressWall$Reader;", true)
  | 2 => ("ButtressWall", "clock", "LButtressWall$Clock;", true)
  | 3 => ("ButtressWall", "trial", "LButtressWall$Trial;", true)
  | 4 => ("ButtressWall", "rosters", "LButtressWall$Rosters;", true)
  | 5 => ("ButtressWall", "now", "LButtressWall$State;", true)
  | 6 => ("ButtressWall", "trail", "LButtressWall$Trail;", true)
  | 7 => ("ButtressWall", "kept", "[LButtressWall$State;", true)
  | 8 => ("ButtressWall", "keptCount", "I", false)
  | 9 => ("ButtressWall", "laid", "LButtressWall$Wall;", false)
  | _ => ("ButtressWall", "spare", "LButtressWall$Wall;", false)
def tyX8 : Nat → FieldType := fun k => match k with
  | 0 => .object "ButtressWall$Text"
  | 1 => .object "ButtressWall$Reader"
  | 2 => .object "ButtressWall$Clock"
  | 3 => .object "ButtressWall$Trial"
  | 4 => .object "ButtressWall$Rosters"
  | 5 => .object "ButtressWall$State"
  | 6 => .object "ButtressWall$Trail"
  | 7 => .array (.object "ButtressWall$State")
  | 8 => .int
  | 9 => .object "ButtressWall$Wall"
  | _ => .object "ButtressWall$Wall"
theorem nmX8 : ∀ a, a < 11 → ∀ b, b < 11 → a ≠ b → (TX8 a).2.1 ≠ (TX8 b).2.1 := by decide +kernel
theorem tyX8_ok : ∀ k, k < 11 → parseFieldDescriptor (TX8 k).2.2.1 = some (tyX8 k) := by decide +kernel
abbrev cX8_init : ByteArray := prog_1_method_1_code
def yX8_init : MethodName := ⟨RX8, "<init>", "()V"⟩
abbrev cX8_write : ByteArray := prog_1_method_2_code
def yX8_write : MethodName := ⟨RX8, "write", "(I)I"⟩
abbrev cX8_wipe : ByteArray := prog_1_method_3_code
def yX8_wipe : MethodName := ⟨RX8, "wipe", "()I"⟩
abbrev cX8_fault : ByteArray := prog_1_method_4_code
def yX8_fault : MethodName := ⟨RX8, "fault", "()I"⟩
abbrev cX8_lay : ByteArray := prog_1_method_5_code
def yX8_lay : MethodName := ⟨RX8, "lay", "()I"⟩
abbrev cX8_bay : ByteArray := prog_1_method_6_code
def yX8_bay : MethodName := ⟨RX8, "bay", "(II)I"⟩
abbrev cX8_buttress : ByteArray := prog_1_method_7_code
def yX8_buttress : MethodName := ⟨RX8, "buttress", "(II)I"⟩
abbrev cX8_carts : ByteArray := prog_1_method_8_code
def yX8_carts : MethodName := ⟨RX8, "carts", "(I)I"⟩
abbrev cX8_pass : ByteArray := prog_1_method_9_code
def yX8_pass : MethodName := ⟨RX8, "pass", "(I)I"⟩
abbrev cX8_down : ByteArray := prog_1_method_10_code
def yX8_down : MethodName := ⟨RX8, "down", "(I)I"⟩
abbrev cX8_up : ByteArray := prog_1_method_11_code
def yX8_up : MethodName := ⟨RX8, "up", "(I)I"⟩
abbrev cX8_send : ByteArray := prog_1_method_12_code
def yX8_send : MethodName := ⟨RX8, "send", "(II)I"⟩
abbrev cX8_undo : ByteArray := prog_1_method_13_code
def yX8_undo : MethodName := ⟨RX8, "undo", "()I"⟩
abbrev cX8_stands : ByteArray := prog_1_method_14_code
def yX8_stands : MethodName := ⟨RX8, "stands", "(I)I"⟩
abbrev cX8_needed : ByteArray := prog_1_method_15_code
def yX8_needed : MethodName := ⟨RX8, "needed", "()I"⟩
abbrev cX8_cuts : ByteArray := prog_1_method_16_code
def yX8_cuts : MethodName := ⟨RX8, "cuts", "()I"⟩
abbrev cX8_roster : ByteArray := prog_1_method_17_code
def yX8_roster : MethodName := ⟨RX8, "roster", "(II)I"⟩
abbrev cX8_place : ByteArray := prog_1_method_18_code
def yX8_place : MethodName := ⟨RX8, "place", "(I)I"⟩
abbrev cX8_strong : ByteArray := prog_1_method_19_code
def yX8_strong : MethodName := ⟨RX8, "strong", "(I)I"⟩
abbrev cX8_who : ByteArray := prog_1_method_20_code
def yX8_who : MethodName := ⟨RX8, "who", "(II)I"⟩
abbrev cX8_knees : ByteArray := prog_1_method_21_code
def yX8_knees : MethodName := ⟨RX8, "knees", "(II)I"⟩
abbrev cX8_shirkers : ByteArray := prog_1_method_22_code
def yX8_shirkers : MethodName := ⟨RX8, "shirkers", "(II)I"⟩
abbrev cX8_night : ByteArray := prog_1_method_23_code
def yX8_night : MethodName := ⟨RX8, "night", "(III)I"⟩
abbrev cX8_keep : ByteArray := prog_1_method_24_code
def yX8_keep : MethodName := ⟨RX8, "keep", "()I"⟩
abbrev cX8_back : ByteArray := prog_1_method_25_code
def yX8_back : MethodName := ⟨RX8, "back", "()I"⟩
abbrev cX8_count : ByteArray := prog_1_method_26_code
def yX8_count : MethodName := ⟨RX8, "count", "(I)I"⟩
abbrev cX8_layText : ByteArray := prog_1_method_27_code
def yX8_layText : MethodName := ⟨RX8, "layText", "()I"⟩
abbrev cX8_standingBay : ByteArray := prog_1_method_28_code
def yX8_standingBay : MethodName := ⟨RX8, "standingBay", "(II)I"⟩
abbrev cX8_wouldHold : ByteArray := prog_1_method_29_code
def yX8_wouldHold : MethodName := ⟨RX8, "wouldHold", "(I)Z"⟩
abbrev cX8_wouldBreak : ByteArray := prog_1_method_30_code
def yX8_wouldBreak : MethodName := ⟨RX8, "wouldBreak", "(I)Z"⟩
abbrev cX8_wouldBeHeld : ByteArray := prog_1_method_31_code
def yX8_wouldBeHeld : MethodName := ⟨RX8, "wouldBeHeld", "(I)I"⟩
abbrev cX8_standsWithAt : ByteArray := prog_1_method_32_code
def yX8_standsWithAt : MethodName := ⟨RX8, "standsWithAt", "(II)I"⟩
abbrev cX8_standsWithStrength : ByteArray := prog_1_method_33_code
def yX8_standsWithStrength : MethodName := ⟨RX8, "standsWithStrength", "(II)I"⟩
abbrev cX8_shirkWeight : ByteArray := prog_1_method_34_code
def yX8_shirkWeight : MethodName := ⟨RX8, "shirkWeight", "(II)I"⟩
abbrev cX8_standsWithShirkers : ByteArray := prog_1_method_35_code
def yX8_standsWithShirkers : MethodName := ⟨RX8, "standsWithShirkers", "(I)Z"⟩
abbrev cX8_hasBit : ByteArray := prog_1_method_36_code
def yX8_hasBit : MethodName := ⟨RX8, "hasBit", "(II)Z"⟩
abbrev cX8_isPart : ByteArray := prog_1_method_37_code
def yX8_isPart : MethodName := ⟨RX8, "isPart", "(II)Z"⟩
abbrev cX8_isFewer : ByteArray := prog_1_method_38_code
def yX8_isFewer : MethodName := ⟨RX8, "isFewer", "(II)Z"⟩
abbrev cX8_draw : ByteArray := prog_1_method_39_code
def yX8_draw : MethodName := ⟨RX8, "draw", "(II)I"⟩
abbrev cX8_power : ByteArray := prog_1_method_40_code
def yX8_power : MethodName := ⟨RX8, "power", "(II)I"⟩
abbrev cX8_commonDivisor : ByteArray := prog_1_method_41_code
def yX8_commonDivisor : MethodName := ⟨RX8, "commonDivisor", "(II)I"⟩
def RX9 : String := "ButtressWallModel"
def TX9 : u_T := fun k => match k with
  | 0 => ("ButtressWallModel", "text", "[I", true)
  | 1 => ("ButtressWallModel", "typed", "I", false)
  | 2 => ("ButtressWallModel", "told", "[I", true)
  | 3 => ("ButtressWallModel", "draft", "[I", true)
  | 4 => ("ButtressWallModel", "begun", "[I", true)
  | 5 => ("ButtressWallModel", "downs", "I", false)
  | 6 => ("ButtressWallModel", "s", "[I", true)
  | 7 => ("ButtressWallModel", "past", "[I", true)
  | 8 => ("ButtressWallModel", "known", "I", false)
  | 9 => ("ButtressWallModel", "images", "[I", true)
  | 10 => ("ButtressWallModel", "kept", "I", false)
  | 11 => ("ButtressWallModel", "at", "I", false)
  | _ => ("ButtressWallModel", "aside", "[I", true)
def tyX9 : Nat → FieldType := fun k => match k with
  | 0 => .array .int
  | 1 => .int
  | 2 => .array .int
  | 3 => .array .int
  | 4 => .array .int
  | 5 => .int
  | 6 => .array .int
  | 7 => .array .int
  | 8 => .int
  | 9 => .array .int
  | 10 => .int
  | 11 => .int
  | _ => .array .int
theorem nmX9 : ∀ a, a < 13 → ∀ b, b < 13 → a ≠ b → (TX9 a).2.1 ≠ (TX9 b).2.1 := by decide +kernel
theorem tyX9_ok : ∀ k, k < 13 → parseFieldDescriptor (TX9 k).2.2.1 = some (tyX9 k) := by decide +kernel
abbrev cX9_init : ByteArray := prog_11_method_1_code
def yX9_init : MethodName := ⟨RX9, "<init>", "()V"⟩
abbrev cX9_in : ByteArray := prog_11_method_3_code
def yX9_in : MethodName := ⟨RX9, "in", "(III)Z"⟩
abbrev cX9_has : ByteArray := prog_11_method_4_code
def yX9_has : MethodName := ⟨RX9, "has", "(II)Z"⟩
abbrev cX9_ones : ByteArray := prog_11_method_5_code
def yX9_ones : MethodName := ⟨RX9, "ones", "(I)I"⟩
abbrev cX9_isBay : ByteArray := prog_11_method_6_code
def yX9_isBay : MethodName := ⟨RX9, "isBay", "(I)Z"⟩
abbrev cX9_isButtress : ByteArray := prog_11_method_7_code
def yX9_isButtress : MethodName := ⟨RX9, "isButtress", "(I)Z"⟩
abbrev cX9_write : ByteArray := prog_11_method_8_code
def yX9_write : MethodName := ⟨RX9, "write", "(I)I"⟩
abbrev cX9_wipe : ByteArray := prog_11_method_9_code
def yX9_wipe : MethodName := ⟨RX9, "wipe", "()I"⟩
abbrev cX9_letterAt : ByteArray := prog_11_method_10_code
def yX9_letterAt : MethodName := ⟨RX9, "letterAt", "(I)I"⟩
abbrev cX9_isFigure : ByteArray := prog_11_method_11_code
def yX9_isFigure : MethodName := ⟨RX9, "isFigure", "(I)Z"⟩
abbrev cX9_number : ByteArray := prog_11_method_12_code
def yX9_number : MethodName := ⟨RX9, "number", "(III)I"⟩
abbrev cX9_begins : ByteArray := prog_11_method_13_code
def yX9_begins : MethodName := ⟨RX9, "begins", "()V"⟩
abbrev cX9_bayOf : ByteArray := prog_11_method_14_code
def yX9_bayOf : MethodName := ⟨RX9, "bayOf", "(II)V"⟩
abbrev cX9_buttressOf : ByteArray := prog_11_method_15_code
def yX9_buttressOf : MethodName := ⟨RX9, "buttressOf", "(IIII)V"⟩
abbrev cX9_readsBay : ByteArray := prog_11_method_16_code
def yX9_readsBay : MethodName := ⟨RX9, "readsBay", "()Z"⟩
abbrev cX9_readsButtress : ByteArray := prog_11_method_17_code
def yX9_readsButtress : MethodName := ⟨RX9, "readsButtress", "()Z"⟩
abbrev cX9_readsItem : ByteArray := prog_11_method_18_code
def yX9_readsItem : MethodName := ⟨RX9, "readsItem", "(I)Z"⟩
abbrev cX9_readsAll : ByteArray := prog_11_method_19_code
def yX9_readsAll : MethodName := ⟨RX9, "readsAll", "()I"⟩
abbrev cX9_fault : ByteArray := prog_11_method_20_code
def yX9_fault : MethodName := ⟨RX9, "fault", "()I"⟩
abbrev cX9_lays : ByteArray := prog_11_method_21_code
def yX9_lays : MethodName := ⟨RX9, "lays", "()V"⟩
abbrev cX9_lay : ByteArray := prog_11_method_22_code
def yX9_lay : MethodName := ⟨RX9, "lay", "()I"⟩
abbrev cX9_hasFallen : ByteArray := prog_11_method_23_code
def yX9_hasFallen : MethodName := ⟨RX9, "hasFallen", "(I)Z"⟩
abbrev cX9_load : ByteArray := prog_11_method_24_code
def yX9_load : MethodName := ⟨RX9, "load", "(I)I"⟩
abbrev cX9_strengths : ByteArray := prog_11_method_25_code
def yX9_strengths : MethodName := ⟨RX9, "strengths", "(I)I"⟩
abbrev cX9_helps : ByteArray := prog_11_method_26_code
def yX9_helps : MethodName := ⟨RX9, "helps", "(I)I"⟩
abbrev cX9_props : ByteArray := prog_11_method_27_code
def yX9_props : MethodName := ⟨RX9, "props", "(I)I"⟩
abbrev cX9_isHeld : ByteArray := prog_11_method_28_code
def yX9_isHeld : MethodName := ⟨RX9, "isHeld", "(I)Z"⟩
abbrev cX9_heldNow : ByteArray := prog_11_method_29_code
def yX9_heldNow : MethodName := ⟨RX9, "heldNow", "()I"⟩
abbrev cX9_bay : ByteArray := prog_11_method_30_code
def yX9_bay : MethodName := ⟨RX9, "bay", "(II)I"⟩
abbrev cX9_buttress : ByteArray := prog_11_method_31_code
def yX9_buttress : MethodName := ⟨RX9, "buttress", "(II)I"⟩
abbrev cX9_areCarts : ByteArray := prog_11_method_32_code
def yX9_areCarts : MethodName := ⟨RX9, "areCarts", "(I)Z"⟩
abbrev cX9_carts : ByteArray := prog_11_method_33_code
def yX9_carts : MethodName := ⟨RX9, "carts", "(I)I"⟩
abbrev cX9_keeps : ByteArray := prog_11_method_34_code
def yX9_keeps : MethodName := ⟨RX9, "keeps", "()V"⟩
abbrev cX9_isAlone : ByteArray := prog_11_method_35_code
def yX9_isAlone : MethodName := ⟨RX9, "isAlone", "(I)Z"⟩
abbrev cX9_passes : ByteArray := prog_11_method_36_code
def yX9_passes : MethodName := ⟨RX9, "passes", "()V"⟩
abbrev cX9_pass : ByteArray := prog_11_method_37_code
def yX9_pass : MethodName := ⟨RX9, "pass", "(I)I"⟩
abbrev cX9_isBarred : ByteArray := prog_11_method_38_code
def yX9_isBarred : MethodName := ⟨RX9, "isBarred", "(I)Z"⟩
abbrev cX9_mayDown : ByteArray := prog_11_method_39_code
def yX9_mayDown : MethodName := ⟨RX9, "mayDown", "(I)Z"⟩
abbrev cX9_mayUp : ByteArray := prog_11_method_40_code
def yX9_mayUp : MethodName := ⟨RX9, "mayUp", "(I)Z"⟩
abbrev cX9_down : ByteArray := prog_11_method_41_code
def yX9_down : MethodName := ⟨RX9, "down", "(I)I"⟩
abbrev cX9_up : ByteArray := prog_11_method_42_code
def yX9_up : MethodName := ⟨RX9, "up", "(I)I"⟩
abbrev cX9_send : ByteArray := prog_11_method_43_code
def yX9_send : MethodName := ⟨RX9, "send", "(II)I"⟩
abbrev cX9_undo : ByteArray := prog_11_method_44_code
def yX9_undo : MethodName := ⟨RX9, "undo", "()I"⟩
abbrev cX9_holds : ByteArray := prog_11_method_45_code
def yX9_holds : MethodName := ⟨RX9, "holds", "()V"⟩
abbrev cX9_lets : ByteArray := prog_11_method_46_code
def yX9_lets : MethodName := ⟨RX9, "lets", "()V"⟩
abbrev cX9_falls : ByteArray := prog_11_method_47_code
def yX9_falls : MethodName := ⟨RX9, "falls", "(I)I"⟩
abbrev cX9_lowest : ByteArray := prog_11_method_48_code
def yX9_lowest : MethodName := ⟨RX9, "lowest", "(I)I"⟩
abbrev cX9_stands : ByteArray := prog_11_method_49_code
def yX9_stands : MethodName := ⟨RX9, "stands", "(I)I"⟩
abbrev cX9_useful : ByteArray := prog_11_method_50_code
def yX9_useful : MethodName := ⟨RX9, "useful", "()I"⟩
abbrev cX9_needed : ByteArray := prog_11_method_51_code
def yX9_needed : MethodName := ⟨RX9, "needed", "()I"⟩
abbrev cX9_cuts : ByteArray := prog_11_method_52_code
def yX9_cuts : MethodName := ⟨RX9, "cuts", "()I"⟩
abbrev cX9_rises : ByteArray := prog_11_method_53_code
def yX9_rises : MethodName := ⟨RX9, "rises", "(I)V"⟩
abbrev cX9_hourOf : ByteArray := prog_11_method_54_code
def yX9_hourOf : MethodName := ⟨RX9, "hourOf", "(IIII)I"⟩
abbrev cX9_isRoster : ByteArray := prog_11_method_55_code
def yX9_isRoster : MethodName := ⟨RX9, "isRoster", "(II)Z"⟩
abbrev cX9_roster : ByteArray := prog_11_method_56_code
def yX9_roster : MethodName := ⟨RX9, "roster", "(II)I"⟩
abbrev cX9_place : ByteArray := prog_11_method_57_code
def yX9_place : MethodName := ⟨RX9, "place", "(I)I"⟩
abbrev cX9_strong : ByteArray := prog_11_method_58_code
def yX9_strong : MethodName := ⟨RX9, "strong", "(I)I"⟩
abbrev cX9_who : ByteArray := prog_11_method_59_code
def yX9_who : MethodName := ⟨RX9, "who", "(II)I"⟩
abbrev cX9_knees : ByteArray := prog_11_method_60_code
def yX9_knees : MethodName := ⟨RX9, "knees", "(II)I"⟩
abbrev cX9_shirkers : ByteArray := prog_11_method_61_code
def yX9_shirkers : MethodName := ⟨RX9, "shirkers", "(II)I"⟩
abbrev cX9_turn : ByteArray := prog_11_method_62_code
def yX9_turn : MethodName := ⟨RX9, "turn", "(I)V"⟩
abbrev cX9_night : ByteArray := prog_11_method_63_code
def yX9_night : MethodName := ⟨RX9, "night", "(III)I"⟩
abbrev cX9_keep : ByteArray := prog_11_method_64_code
def yX9_keep : MethodName := ⟨RX9, "keep", "()I"⟩
abbrev cX9_back : ByteArray := prog_11_method_65_code
def yX9_back : MethodName := ⟨RX9, "back", "()I"⟩
abbrev cX9_count : ByteArray := prog_11_method_66_code
def yX9_count : MethodName := ⟨RX9, "count", "(I)I"⟩
def RJ6 : String := "java/lang/Integer"
def TJ6 : u_T := fun k => match k with
  | _ => ("", "", "", false)
def tyJ6 : Nat → FieldType := fun k => match k with
  | _ => .int
theorem nmJ6 : ∀ a, a < 0 → ∀ b, b < 0 → a ≠ b → (TJ6 a).2.1 ≠ (TJ6 b).2.1 := by decide +kernel
theorem tyJ6_ok : ∀ k, k < 0 → parseFieldDescriptor (TJ6 k).2.2.1 = some (tyJ6 k) := by decide +kernel
abbrev cJ6_numberOfTrailingZeros_0f7a4 : ByteArray := prog_12_method_48_code
def yJ6_numberOfTrailingZeros_0f7a4 : MethodName := ⟨RJ6, "numberOfTrailingZeros", "(I)I"⟩
abbrev cJ6_bitCount_0f7a4 : ByteArray := prog_12_method_49_code
def yJ6_bitCount_0f7a4 : MethodName := ⟨RJ6, "bitCount", "(I)I"⟩
def RJ9 : String := "java/lang/Math"
def TJ9 : u_T := fun k => match k with
  | _ => ("", "", "", false)
def tyJ9 : Nat → FieldType := fun k => match k with
  | _ => .int
theorem nmJ9 : ∀ a, a < 0 → ∀ b, b < 0 → a ≠ b → (TJ9 a).2.1 ≠ (TJ9 b).2.1 := by decide +kernel
theorem tyJ9_ok : ∀ k, k < 0 → parseFieldDescriptor (TJ9 k).2.2.1 = some (tyJ9 k) := by decide +kernel
abbrev cJ9_floorMod_7cf53 : ByteArray := prog_13_method_50_code
def yJ9_floorMod_7cf53 : MethodName := ⟨RJ9, "floorMod", "(II)I"⟩
abbrev cJ9_abs_0f7a4 : ByteArray := prog_13_method_59_code
def yJ9_abs_0f7a4 : MethodName := ⟨RJ9, "abs", "(I)I"⟩
abbrev cJ9_max_7cf53 : ByteArray := prog_13_method_65_code
def yJ9_max_7cf53 : MethodName := ⟨RJ9, "max", "(II)I"⟩
abbrev cJ9_min_7cf53 : ByteArray := prog_13_method_69_code
def yJ9_min_7cf53 : MethodName := ⟨RJ9, "min", "(II)I"⟩
def RJ0 : String := "java/lang/String"
def TJ0 : u_T := fun k => match k with
  | _ => ("", "", "", false)
def tyJ0 : Nat → FieldType := fun k => match k with
  | _ => .int
theorem nmJ0 : ∀ a, a < 0 → ∀ b, b < 0 → a ≠ b → (TJ0 a).2.1 ≠ (TJ0 b).2.1 := by decide +kernel
theorem tyJ0_ok : ∀ k, k < 0 → parseFieldDescriptor (TJ0 k).2.2.1 = some (tyJ0 k) := by decide +kernel
abbrev cJ0_length_8abf5 : ByteArray := prog_14_method_54_code
def yJ0_length_8abf5 : MethodName := ⟨RJ0, "length", "()I"⟩
abbrev cJ0_charAt_5068e : ByteArray := prog_14_method_56_code
def yJ0_charAt_5068e : MethodName := ⟨RJ0, "charAt", "(I)C"⟩
abbrev cJ0_coder_7d493 : ByteArray := prog_14_method_152_code
def yJ0_coder_7d493 : MethodName := ⟨RJ0, "coder", "()B"⟩
abbrev cJ0_isLatin1_aae02 : ByteArray := prog_14_method_154_code
def yJ0_isLatin1_aae02 : MethodName := ⟨RJ0, "isLatin1", "()Z"⟩
abbrev cJ0_checkIndex_df160 : ByteArray := prog_14_method_155_code
def yJ0_checkIndex_df160 : MethodName := ⟨RJ0, "checkIndex", "(II)V"⟩
def RJ1 : String := "java/lang/StringLatin1"
def TJ1 : u_T := fun k => match k with
  | _ => ("", "", "", false)
def tyJ1 : Nat → FieldType := fun k => match k with
  | _ => .int
theorem nmJ1 : ∀ a, a < 0 → ∀ b, b < 0 → a ≠ b → (TJ1 a).2.1 ≠ (TJ1 b).2.1 := by decide +kernel
theorem tyJ1_ok : ∀ k, k < 0 → parseFieldDescriptor (TJ1 k).2.2.1 = some (tyJ1 k) := by decide +kernel
abbrev cJ1_charAt_3b067 : ByteArray := prog_15_method_2_code
def yJ1_charAt_3b067 : MethodName := ⟨RJ1, "charAt", "([BI)C"⟩
def RJ2 : String := "java/lang/StringUTF16"
def TJ2 : u_T := fun k => match k with
  | _ => ("", "", "", false)
def tyJ2 : Nat → FieldType := fun k => match k with
  | _ => .int
theorem nmJ2 : ∀ a, a < 0 → ∀ b, b < 0 → a ≠ b → (TJ2 a).2.1 ≠ (TJ2 b).2.1 := by decide +kernel
theorem tyJ2_ok : ∀ k, k < 0 → parseFieldDescriptor (TJ2 k).2.2.1 = some (tyJ2 k) := by decide +kernel
abbrev cJ2_getChar_3b067 : ByteArray := prog_16_method_5_code
def yJ2_getChar_3b067 : MethodName := ⟨RJ2, "getChar", "([BI)C"⟩
abbrev cJ2_length_9d52b : ByteArray := prog_16_method_6_code
def yJ2_length_9d52b : MethodName := ⟨RJ2, "length", "([B)I"⟩
abbrev cJ2_charAt_3b067 : ByteArray := prog_16_method_83_code
def yJ2_charAt_3b067 : MethodName := ⟨RJ2, "charAt", "([BI)C"⟩
abbrev cJ2_checkIndex_2214a : ByteArray := prog_16_method_91_code
def yJ2_checkIndex_2214a : MethodName := ⟨RJ2, "checkIndex", "(I[B)V"⟩
def RJ10 : String := "java/lang/System"
def TJ10 : u_T := fun k => match k with
  | _ => ("", "", "", false)
def tyJ10 : Nat → FieldType := fun k => match k with
  | _ => .int
theorem nmJ10 : ∀ a, a < 0 → ∀ b, b < 0 → a ≠ b → (TJ10 a).2.1 ≠ (TJ10 b).2.1 := by decide +kernel
theorem tyJ10_ok : ∀ k, k < 0 → parseFieldDescriptor (TJ10 k).2.2.1 = some (tyJ10 k) := by decide +kernel
def RJ3 : String := "jdk/internal/util/Preconditions"
def TJ3 : u_T := fun k => match k with
  | _ => ("", "", "", false)
def tyJ3 : Nat → FieldType := fun k => match k with
  | _ => .int
theorem nmJ3 : ∀ a, a < 0 → ∀ b, b < 0 → a ≠ b → (TJ3 a).2.1 ≠ (TJ3 b).2.1 := by decide +kernel
theorem tyJ3_ok : ∀ k, k < 0 → parseFieldDescriptor (TJ3 k).2.2.1 = some (tyJ3 k) := by decide +kernel
abbrev cJ3_checkIndex_8e157 : ByteArray := prog_18_method_11_code
def yJ3_checkIndex_8e157 : MethodName := ⟨RJ3, "checkIndex", "(IILjava/util/function/BiFunction;)I"⟩
def RL : String := "ButtressWallLaw"
abbrev cL_law : ByteArray := code
def yL_law : MethodName := ⟨RL, "law", "([I)Z"⟩
abbrev vwCl : List vw_C := [(RX0, TX0, 3), (RX1, TX1, 2), (RX2, TX2, 4), (RX3, TX3, 6), (RX4, TX4, 2), (RX5, TX5, 3), (RX6, TX6, 3), (RX7, TX7, 11), (RX8, TX8, 11), (RX9, TX9, 13)]
end
section
theorem dX0_init_0 : decode cX0_init 0 = .ok (.aload_n 0, 1) := by decide +kernel
theorem dX0_init_1 : decode cX0_init 1 = .ok (.invokespecial 3, 3) := by decide +kernel
theorem dX0_init_4 : decode cX0_init 4 = .ok (.aload_n 0, 1) := by decide +kernel
theorem dX0_init_5 : decode cX0_init 5 = .ok (.bipush 8, 2) := by decide +kernel
theorem dX0_init_7 : decode cX0_init 7 = .ok (.newarray .int, 2) := by decide +kernel
theorem dX0_init_9 : decode cX0_init 9 = .ok (.putfield 9, 3) := by decide +kernel
theorem dX0_init_12 : decode cX0_init 12 = .ok (.aload_n 0, 1) := by decide +kernel
theorem dX0_init_13 : decode cX0_init 13 = .ok (.bipush 8, 2) := by decide +kernel
theorem dX0_init_15 : decode cX0_init 15 = .ok (.newarray .int, 2) := by decide +kernel
theorem dX0_init_17 : decode cX0_init 17 = .ok (.putfield 15, 3) := by decide +kernel
theorem dX0_init_20 : decode cX0_init 20 = .ok (.aload_n 0, 1) := by decide +kernel
theorem dX0_init_21 : decode cX0_init 21 = .ok (.bipush 8, 2) := by decide +kernel
theorem dX0_init_23 : decode cX0_init 23 = .ok (.newarray .int, 2) := by decide +kernel
theorem dX0_init_25 : decode cX0_init 25 = .ok (.putfield 18, 3) := by decide +kernel
theorem dX0_init_28 : decode cX0_init 28 = .ok (.return_, 1) := by decide +kernel
theorem dX0_heldBays_0 : decode cX0_heldBays 0 = .ok (.aload_n 0, 1) := by decide +kernel
theorem dX0_heldBays_1 : decode cX0_heldBays 1 = .ok (.aload_n 1, 1) := by decide +kernel
theorem dX0_heldBays_2 : decode cX0_heldBays 2 = .ok (.aload_n 2, 1) := by decide +kernel
theorem dX0_heldBays_3 : decode cX0_heldBays 3 = .ok (.invokevirtual 21, 3) := by decide +kernel
theorem dX0_heldBays_6 : decode cX0_heldBays 6 = .ok (.iconst 0, 1) := by decide +kernel
theorem dX0_heldBays_7 : decode cX0_heldBays 7 = .ok (.istore_n 3, 1) := by decide +kernel
theorem dX0_heldBays_8 : decode cX0_heldBays 8 = .ok (.iload_n 3, 1) := by decide +kernel
theorem dX0_heldBays_9 : decode cX0_heldBays 9 = .ok (.aload_n 1, 1) := by decide +kernel
theorem dX0_heldBays_10 : decode cX0_heldBays 10 = .ok (.getfield 25, 3) := by decide +kernel
theorem dX0_heldBays_13 : decode cX0_heldBays 13 = .ok (.if_icmp .ge 45, 3) := by decide +kernel
theorem dX0_heldBays_16 : decode cX0_heldBays 16 = .ok (.iload_n 3, 1) := by decide +kernel
theorem dX0_heldBays_17 : decode cX0_heldBays 17 = .ok (.bipush 8, 2) := by decide +kernel
theorem dX0_heldBays_19 : decode cX0_heldBays 19 = .ok (.if_icmp .ge 39, 3) := by decide +kernel
theorem dX0_heldBays_22 : decode cX0_heldBays 22 = .ok (.aload_n 0, 1) := by decide +kernel
theorem dX0_heldBays_23 : decode cX0_heldBays 23 = .ok (.getfield 15, 3) := by decide +kernel
theorem dX0_heldBays_26 : decode cX0_heldBays 26 = .ok (.iload_n 3, 1) := by decide +kernel
theorem dX0_heldBays_27 : decode cX0_heldBays 27 = .ok (.aload_n 1, 1) := by decide +kernel
theorem dX0_heldBays_28 : decode cX0_heldBays 28 = .ok (.getfield 31, 3) := by decide +kernel
theorem dX0_heldBays_31 : decode cX0_heldBays 31 = .ok (.iload_n 3, 1) := by decide +kernel
theorem dX0_heldBays_32 : decode cX0_heldBays 32 = .ok (.iaload, 1) := by decide +kernel
theorem dX0_heldBays_33 : decode cX0_heldBays 33 = .ok (.aload_n 1, 1) := by decide +kernel
theorem dX0_heldBays_34 : decode cX0_heldBays 34 = .ok (.aload_n 2, 1) := by decide +kernel
theorem dX0_heldBays_35 : decode cX0_heldBays 35 = .ok (.iload_n 3, 1) := by decide +kernel
theorem dX0_heldBays_36 : decode cX0_heldBays 36 = .ok (.iconst 1, 1) := by decide +kernel
theorem dX0_heldBays_37 : decode cX0_heldBays 37 = .ok (.isub, 1) := by decide +kernel
theorem dX0_heldBays_38 : decode cX0_heldBays 38 = .ok (.invokestatic 34, 3) := by decide +kernel
theorem dX0_heldBays_41 : decode cX0_heldBays 41 = .ok (.iadd, 1) := by decide +kernel
theorem dX0_heldBays_42 : decode cX0_heldBays 42 = .ok (.aload_n 1, 1) := by decide +kernel
theorem dX0_heldBays_43 : decode cX0_heldBays 43 = .ok (.aload_n 2, 1) := by decide +kernel
theorem dX0_heldBays_44 : decode cX0_heldBays 44 = .ok (.iload_n 3, 1) := by decide +kernel
theorem dX0_heldBays_45 : decode cX0_heldBays 45 = .ok (.iconst 1, 1) := by decide +kernel
theorem dX0_heldBays_46 : decode cX0_heldBays 46 = .ok (.iadd, 1) := by decide +kernel
theorem dX0_heldBays_47 : decode cX0_heldBays 47 = .ok (.invokestatic 34, 3) := by decide +kernel
theorem dX0_heldBays_50 : decode cX0_heldBays 50 = .ok (.iadd, 1) := by decide +kernel
theorem dX0_heldBays_51 : decode cX0_heldBays 51 = .ok (.iastore, 1) := by decide +kernel
theorem dX0_heldBays_52 : decode cX0_heldBays 52 = .ok (.iinc 3 1, 3) := by decide +kernel
theorem dX0_heldBays_55 : decode cX0_heldBays 55 = .ok (.goto (-47), 3) := by decide +kernel
theorem dX0_heldBays_58 : decode cX0_heldBays 58 = .ok (.iconst 0, 1) := by decide +kernel
theorem dX0_heldBays_59 : decode cX0_heldBays 59 = .ok (.istore_n 3, 1) := by decide +kernel
theorem dX0_heldBays_60 : decode cX0_heldBays 60 = .ok (.iconst 0, 1) := by decide +kernel
theorem dX0_heldBays_61 : decode cX0_heldBays 61 = .ok (.istore 4, 2) := by decide +kernel
theorem dX0_heldBays_63 : decode cX0_heldBays 63 = .ok (.iload 4, 2) := by decide +kernel
theorem dX0_heldBays_65 : decode cX0_heldBays 65 = .ok (.aload_n 1, 1) := by decide +kernel
theorem dX0_heldBays_66 : decode cX0_heldBays 66 = .ok (.getfield 25, 3) := by decide +kernel
theorem dX0_heldBays_69 : decode cX0_heldBays 69 = .ok (.if_icmp .ge 76, 3) := by decide +kernel
theorem dX0_heldBays_72 : decode cX0_heldBays 72 = .ok (.iload 4, 2) := by decide +kernel
theorem dX0_heldBays_74 : decode cX0_heldBays 74 = .ok (.bipush 8, 2) := by decide +kernel
theorem dX0_heldBays_76 : decode cX0_heldBays 76 = .ok (.if_icmp .ge 69, 3) := by decide +kernel
theorem dX0_heldBays_79 : decode cX0_heldBays 79 = .ok (.aload_n 0, 1) := by decide +kernel
theorem dX0_heldBays_80 : decode cX0_heldBays 80 = .ok (.getfield 18, 3) := by decide +kernel
theorem dX0_heldBays_83 : decode cX0_heldBays 83 = .ok (.iload 4, 2) := by decide +kernel
theorem dX0_heldBays_85 : decode cX0_heldBays 85 = .ok (.aload_n 0, 1) := by decide +kernel
theorem dX0_heldBays_86 : decode cX0_heldBays 86 = .ok (.getfield 9, 3) := by decide +kernel
theorem dX0_heldBays_89 : decode cX0_heldBays 89 = .ok (.iload 4, 2) := by decide +kernel
theorem dX0_heldBays_91 : decode cX0_heldBays 91 = .ok (.iaload, 1) := by decide +kernel
theorem dX0_heldBays_92 : decode cX0_heldBays 92 = .ok (.aload_n 0, 1) := by decide +kernel
theorem dX0_heldBays_93 : decode cX0_heldBays 93 = .ok (.aload_n 1, 1) := by decide +kernel
theorem dX0_heldBays_94 : decode cX0_heldBays 94 = .ok (.aload_n 2, 1) := by decide +kernel
theorem dX0_heldBays_95 : decode cX0_heldBays 95 = .ok (.iload 4, 2) := by decide +kernel
theorem dX0_heldBays_97 : decode cX0_heldBays 97 = .ok (.iconst 1, 1) := by decide +kernel
theorem dX0_heldBays_98 : decode cX0_heldBays 98 = .ok (.isub, 1) := by decide +kernel
theorem dX0_heldBays_99 : decode cX0_heldBays 99 = .ok (.invokevirtual 38, 3) := by decide +kernel
theorem dX0_heldBays_102 : decode cX0_heldBays 102 = .ok (.iadd, 1) := by decide +kernel
theorem dX0_heldBays_103 : decode cX0_heldBays 103 = .ok (.aload_n 0, 1) := by decide +kernel
theorem dX0_heldBays_104 : decode cX0_heldBays 104 = .ok (.aload_n 1, 1) := by decide +kernel
theorem dX0_heldBays_105 : decode cX0_heldBays 105 = .ok (.aload_n 2, 1) := by decide +kernel
theorem dX0_heldBays_106 : decode cX0_heldBays 106 = .ok (.iload 4, 2) := by decide +kernel
theorem dX0_heldBays_108 : decode cX0_heldBays 108 = .ok (.iconst 1, 1) := by decide +kernel
theorem dX0_heldBays_109 : decode cX0_heldBays 109 = .ok (.iadd, 1) := by decide +kernel
theorem dX0_heldBays_110 : decode cX0_heldBays 110 = .ok (.invokevirtual 38, 3) := by decide +kernel
theorem dX0_heldBays_113 : decode cX0_heldBays 113 = .ok (.iadd, 1) := by decide +kernel
theorem dX0_heldBays_114 : decode cX0_heldBays 114 = .ok (.iastore, 1) := by decide +kernel
theorem dX0_heldBays_115 : decode cX0_heldBays 115 = .ok (.aload_n 0, 1) := by decide +kernel
theorem dX0_heldBays_116 : decode cX0_heldBays 116 = .ok (.getfield 18, 3) := by decide +kernel
theorem dX0_heldBays_119 : decode cX0_heldBays 119 = .ok (.iload 4, 2) := by decide +kernel
theorem dX0_heldBays_121 : decode cX0_heldBays 121 = .ok (.iaload, 1) := by decide +kernel
theorem dX0_heldBays_122 : decode cX0_heldBays 122 = .ok (.aload_n 0, 1) := by decide +kernel
theorem dX0_heldBays_123 : decode cX0_heldBays 123 = .ok (.getfield 15, 3) := by decide +kernel
theorem dX0_heldBays_126 : decode cX0_heldBays 126 = .ok (.iload 4, 2) := by decide +kernel
theorem dX0_heldBays_128 : decode cX0_heldBays 128 = .ok (.iaload, 1) := by decide +kernel
theorem dX0_heldBays_129 : decode cX0_heldBays 129 = .ok (.if_icmp .lt 10, 3) := by decide +kernel
theorem dX0_heldBays_132 : decode cX0_heldBays 132 = .ok (.iload_n 3, 1) := by decide +kernel
theorem dX0_heldBays_133 : decode cX0_heldBays 133 = .ok (.iconst 1, 1) := by decide +kernel
theorem dX0_heldBays_134 : decode cX0_heldBays 134 = .ok (.iload 4, 2) := by decide +kernel
theorem dX0_heldBays_136 : decode cX0_heldBays 136 = .ok (.ishl, 1) := by decide +kernel
theorem dX0_heldBays_137 : decode cX0_heldBays 137 = .ok (.ior, 1) := by decide +kernel
theorem dX0_heldBays_138 : decode cX0_heldBays 138 = .ok (.istore_n 3, 1) := by decide +kernel
theorem dX0_heldBays_139 : decode cX0_heldBays 139 = .ok (.iinc 4 1, 3) := by decide +kernel
theorem dX0_heldBays_142 : decode cX0_heldBays 142 = .ok (.goto (-79), 3) := by decide +kernel
theorem dX0_heldBays_145 : decode cX0_heldBays 145 = .ok (.iload_n 3, 1) := by decide +kernel
theorem dX0_heldBays_146 : decode cX0_heldBays 146 = .ok (.aload_n 2, 1) := by decide +kernel
theorem dX0_heldBays_147 : decode cX0_heldBays 147 = .ok (.getfield 41, 3) := by decide +kernel
theorem dX0_heldBays_150 : decode cX0_heldBays 150 = .ok (.iconst (-1), 1) := by decide +kernel
theorem dX0_heldBays_151 : decode cX0_heldBays 151 = .ok (.ixor, 1) := by decide +kernel
theorem dX0_heldBays_152 : decode cX0_heldBays 152 = .ok (.iand, 1) := by decide +kernel
theorem dX0_heldBays_153 : decode cX0_heldBays 153 = .ok (.ireturn, 1) := by decide +kernel
theorem dX0_weighRaised_0 : decode cX0_weighRaised 0 = .ok (.iconst 0, 1) := by decide +kernel
theorem dX0_weighRaised_1 : decode cX0_weighRaised 1 = .ok (.istore_n 3, 1) := by decide +kernel
theorem dX0_weighRaised_2 : decode cX0_weighRaised 2 = .ok (.iload_n 3, 1) := by decide +kernel
theorem dX0_weighRaised_3 : decode cX0_weighRaised 3 = .ok (.bipush 8, 2) := by decide +kernel
theorem dX0_weighRaised_5 : decode cX0_weighRaised 5 = .ok (.if_icmp .ge 16, 3) := by decide +kernel
theorem dX0_weighRaised_8 : decode cX0_weighRaised 8 = .ok (.aload_n 0, 1) := by decide +kernel
theorem dX0_weighRaised_9 : decode cX0_weighRaised 9 = .ok (.getfield 9, 3) := by decide +kernel
theorem dX0_weighRaised_12 : decode cX0_weighRaised 12 = .ok (.iload_n 3, 1) := by decide +kernel
theorem dX0_weighRaised_13 : decode cX0_weighRaised 13 = .ok (.iconst 0, 1) := by decide +kernel
theorem dX0_weighRaised_14 : decode cX0_weighRaised 14 = .ok (.iastore, 1) := by decide +kernel
theorem dX0_weighRaised_15 : decode cX0_weighRaised 15 = .ok (.iinc 3 1, 3) := by decide +kernel
theorem dX0_weighRaised_18 : decode cX0_weighRaised 18 = .ok (.goto (-16), 3) := by decide +kernel
theorem dX0_weighRaised_21 : decode cX0_weighRaised 21 = .ok (.iconst 0, 1) := by decide +kernel
theorem dX0_weighRaised_22 : decode cX0_weighRaised 22 = .ok (.istore_n 3, 1) := by decide +kernel
theorem dX0_weighRaised_23 : decode cX0_weighRaised 23 = .ok (.iload_n 3, 1) := by decide +kernel
theorem dX0_weighRaised_24 : decode cX0_weighRaised 24 = .ok (.aload_n 1, 1) := by decide +kernel
theorem dX0_weighRaised_25 : decode cX0_weighRaised 25 = .ok (.getfield 46, 3) := by decide +kernel
theorem dX0_weighRaised_28 : decode cX0_weighRaised 28 = .ok (.if_icmp .ge 56, 3) := by decide +kernel
theorem dX0_weighRaised_31 : decode cX0_weighRaised 31 = .ok (.iload_n 3, 1) := by decide +kernel
theorem dX0_weighRaised_32 : decode cX0_weighRaised 32 = .ok (.bipush 6, 2) := by decide +kernel
theorem dX0_weighRaised_34 : decode cX0_weighRaised 34 = .ok (.if_icmp .ge 50, 3) := by decide +kernel
theorem dX0_weighRaised_37 : decode cX0_weighRaised 37 = .ok (.aload_n 2, 1) := by decide +kernel
theorem dX0_weighRaised_38 : decode cX0_weighRaised 38 = .ok (.getfield 49, 3) := by decide +kernel
theorem dX0_weighRaised_41 : decode cX0_weighRaised 41 = .ok (.iload_n 3, 1) := by decide +kernel
theorem dX0_weighRaised_42 : decode cX0_weighRaised 42 = .ok (.iaload, 1) := by decide +kernel
theorem dX0_weighRaised_43 : decode cX0_weighRaised 43 = .ok (.istore 4, 2) := by decide +kernel
theorem dX0_weighRaised_45 : decode cX0_weighRaised 45 = .ok (.aload_n 2, 1) := by decide +kernel
theorem dX0_weighRaised_46 : decode cX0_weighRaised 46 = .ok (.iload_n 3, 1) := by decide +kernel
theorem dX0_weighRaised_47 : decode cX0_weighRaised 47 = .ok (.invokevirtual 52, 3) := by decide +kernel
theorem dX0_weighRaised_50 : decode cX0_weighRaised 50 = .ok (.ifCond .eq 28, 3) := by decide +kernel
theorem dX0_weighRaised_53 : decode cX0_weighRaised 53 = .ok (.aload_n 1, 1) := by decide +kernel
theorem dX0_weighRaised_54 : decode cX0_weighRaised 54 = .ok (.iload 4, 2) := by decide +kernel
theorem dX0_weighRaised_56 : decode cX0_weighRaised 56 = .ok (.invokevirtual 56, 3) := by decide +kernel
theorem dX0_weighRaised_59 : decode cX0_weighRaised 59 = .ok (.ifCond .eq 19, 3) := by decide +kernel
theorem dX0_weighRaised_62 : decode cX0_weighRaised 62 = .ok (.aload_n 0, 1) := by decide +kernel
theorem dX0_weighRaised_63 : decode cX0_weighRaised 63 = .ok (.getfield 9, 3) := by decide +kernel
theorem dX0_weighRaised_66 : decode cX0_weighRaised 66 = .ok (.iload 4, 2) := by decide +kernel
theorem dX0_weighRaised_68 : decode cX0_weighRaised 68 = .ok (.dup2, 1) := by decide +kernel
theorem dX0_weighRaised_69 : decode cX0_weighRaised 69 = .ok (.iaload, 1) := by decide +kernel
theorem dX0_weighRaised_70 : decode cX0_weighRaised 70 = .ok (.aload_n 1, 1) := by decide +kernel
theorem dX0_weighRaised_71 : decode cX0_weighRaised 71 = .ok (.getfield 59, 3) := by decide +kernel
theorem dX0_weighRaised_74 : decode cX0_weighRaised 74 = .ok (.iload_n 3, 1) := by decide +kernel
theorem dX0_weighRaised_75 : decode cX0_weighRaised 75 = .ok (.iaload, 1) := by decide +kernel
theorem dX0_weighRaised_76 : decode cX0_weighRaised 76 = .ok (.iadd, 1) := by decide +kernel
theorem dX0_weighRaised_77 : decode cX0_weighRaised 77 = .ok (.iastore, 1) := by decide +kernel
theorem dX0_weighRaised_78 : decode cX0_weighRaised 78 = .ok (.iinc 3 1, 3) := by decide +kernel
theorem dX0_weighRaised_81 : decode cX0_weighRaised 81 = .ok (.goto (-58), 3) := by decide +kernel
theorem dX0_weighRaised_84 : decode cX0_weighRaised 84 = .ok (.return_, 1) := by decide +kernel
theorem dX0_thrown_0 : decode cX0_thrown 0 = .ok (.aload_n 0, 1) := by decide +kernel
theorem dX0_thrown_1 : decode cX0_thrown 1 = .ok (.iload_n 2, 1) := by decide +kernel
theorem dX0_thrown_2 : decode cX0_thrown 2 = .ok (.invokevirtual 56, 3) := by decide +kernel
theorem dX0_thrown_5 : decode cX0_thrown 5 = .ok (.ifCond .eq 22, 3) := by decide +kernel
theorem dX0_thrown_8 : decode cX0_thrown 8 = .ok (.aload_n 1, 1) := by decide +kernel
theorem dX0_thrown_9 : decode cX0_thrown 9 = .ok (.iload_n 2, 1) := by decide +kernel
theorem dX0_thrown_10 : decode cX0_thrown 10 = .ok (.invokevirtual 62, 3) := by decide +kernel
theorem dX0_thrown_13 : decode cX0_thrown 13 = .ok (.ifCond .eq 14, 3) := by decide +kernel
theorem dX0_thrown_16 : decode cX0_thrown 16 = .ok (.aload_n 0, 1) := by decide +kernel
theorem dX0_thrown_17 : decode cX0_thrown 17 = .ok (.getfield 31, 3) := by decide +kernel
theorem dX0_thrown_20 : decode cX0_thrown 20 = .ok (.iload_n 2, 1) := by decide +kernel
theorem dX0_thrown_21 : decode cX0_thrown 21 = .ok (.iaload, 1) := by decide +kernel
theorem dX0_thrown_22 : decode cX0_thrown 22 = .ok (.iconst 2, 1) := by decide +kernel
theorem dX0_thrown_23 : decode cX0_thrown 23 = .ok (.idiv, 1) := by decide +kernel
theorem dX0_thrown_24 : decode cX0_thrown 24 = .ok (.goto 4, 3) := by decide +kernel
theorem dX0_thrown_27 : decode cX0_thrown 27 = .ok (.iconst 0, 1) := by decide +kernel
theorem dX0_thrown_28 : decode cX0_thrown 28 = .ok (.ireturn, 1) := by decide +kernel
theorem dX0_lent_0 : decode cX0_lent 0 = .ok (.aload_n 1, 1) := by decide +kernel
theorem dX0_lent_1 : decode cX0_lent 1 = .ok (.iload_n 3, 1) := by decide +kernel
theorem dX0_lent_2 : decode cX0_lent 2 = .ok (.invokevirtual 56, 3) := by decide +kernel
theorem dX0_lent_5 : decode cX0_lent 5 = .ok (.ifCond .eq 11, 3) := by decide +kernel
theorem dX0_lent_8 : decode cX0_lent 8 = .ok (.aload_n 2, 1) := by decide +kernel
theorem dX0_lent_9 : decode cX0_lent 9 = .ok (.iload_n 3, 1) := by decide +kernel
theorem dX0_lent_10 : decode cX0_lent 10 = .ok (.invokevirtual 62, 3) := by decide +kernel
theorem dX0_lent_13 : decode cX0_lent 13 = .ok (.ifCond .eq 5, 3) := by decide +kernel
theorem dX0_lent_16 : decode cX0_lent 16 = .ok (.iconst 0, 1) := by decide +kernel
theorem dX0_lent_17 : decode cX0_lent 17 = .ok (.ireturn, 1) := by decide +kernel
theorem dX0_lent_18 : decode cX0_lent 18 = .ok (.iconst 0, 1) := by decide +kernel
theorem dX0_lent_19 : decode cX0_lent 19 = .ok (.aload_n 0, 1) := by decide +kernel
theorem dX0_lent_20 : decode cX0_lent 20 = .ok (.getfield 9, 3) := by decide +kernel
theorem dX0_lent_23 : decode cX0_lent 23 = .ok (.iload_n 3, 1) := by decide +kernel
theorem dX0_lent_24 : decode cX0_lent 24 = .ok (.iaload, 1) := by decide +kernel
theorem dX0_lent_25 : decode cX0_lent 25 = .ok (.aload_n 0, 1) := by decide +kernel
theorem dX0_lent_26 : decode cX0_lent 26 = .ok (.getfield 15, 3) := by decide +kernel
theorem dX0_lent_29 : decode cX0_lent 29 = .ok (.iload_n 3, 1) := by decide +kernel
theorem dX0_lent_30 : decode cX0_lent 30 = .ok (.iaload, 1) := by decide +kernel
theorem dX0_lent_31 : decode cX0_lent 31 = .ok (.isub, 1) := by decide +kernel
theorem dX0_lent_32 : decode cX0_lent 32 = .ok (.invokestatic 65, 3) := by decide +kernel
theorem dX0_lent_35 : decode cX0_lent 35 = .ok (.iconst 2, 1) := by decide +kernel
theorem dX0_lent_36 : decode cX0_lent 36 = .ok (.idiv, 1) := by decide +kernel
theorem dX0_lent_37 : decode cX0_lent 37 = .ok (.ireturn, 1) := by decide +kernel
theorem dX0_goBy_0 : decode cX0_goBy 0 = .ok (.aload_n 0, 1) := by decide +kernel
theorem dX0_goBy_1 : decode cX0_goBy 1 = .ok (.aload_n 1, 1) := by decide +kernel
theorem dX0_goBy_2 : decode cX0_goBy 2 = .ok (.aload_n 2, 1) := by decide +kernel
theorem dX0_goBy_3 : decode cX0_goBy 3 = .ok (.invokevirtual 71, 3) := by decide +kernel
theorem dX0_goBy_6 : decode cX0_goBy 6 = .ok (.istore_n 3, 1) := by decide +kernel
theorem dX0_goBy_7 : decode cX0_goBy 7 = .ok (.aload_n 1, 1) := by decide +kernel
theorem dX0_goBy_8 : decode cX0_goBy 8 = .ok (.aload_n 2, 1) := by decide +kernel
theorem dX0_goBy_9 : decode cX0_goBy 9 = .ok (.getfield 75, 3) := by decide +kernel
theorem dX0_goBy_12 : decode cX0_goBy 12 = .ok (.invokevirtual 78, 3) := by decide +kernel
theorem dX0_goBy_15 : decode cX0_goBy 15 = .ok (.istore 4, 2) := by decide +kernel
theorem dX0_goBy_17 : decode cX0_goBy 17 = .ok (.iconst 0, 1) := by decide +kernel
theorem dX0_goBy_18 : decode cX0_goBy 18 = .ok (.istore 5, 2) := by decide +kernel
theorem dX0_goBy_20 : decode cX0_goBy 20 = .ok (.iload 5, 2) := by decide +kernel
theorem dX0_goBy_22 : decode cX0_goBy 22 = .ok (.aload_n 1, 1) := by decide +kernel
theorem dX0_goBy_23 : decode cX0_goBy 23 = .ok (.getfield 46, 3) := by decide +kernel
theorem dX0_goBy_26 : decode cX0_goBy 26 = .ok (.if_icmp .ge 70, 3) := by decide +kernel
theorem dX0_goBy_29 : decode cX0_goBy 29 = .ok (.iload 5, 2) := by decide +kernel
theorem dX0_goBy_31 : decode cX0_goBy 31 = .ok (.bipush 6, 2) := by decide +kernel
theorem dX0_goBy_33 : decode cX0_goBy 33 = .ok (.if_icmp .ge 63, 3) := by decide +kernel
theorem dX0_goBy_36 : decode cX0_goBy 36 = .ok (.aload_n 2, 1) := by decide +kernel
theorem dX0_goBy_37 : decode cX0_goBy 37 = .ok (.iload 5, 2) := by decide +kernel
theorem dX0_goBy_39 : decode cX0_goBy 39 = .ok (.invokevirtual 52, 3) := by decide +kernel
theorem dX0_goBy_42 : decode cX0_goBy 42 = .ok (.ifCond .eq 13, 3) := by decide +kernel
theorem dX0_goBy_45 : decode cX0_goBy 45 = .ok (.aload_n 1, 1) := by decide +kernel
theorem dX0_goBy_46 : decode cX0_goBy 46 = .ok (.aload_n 2, 1) := by decide +kernel
theorem dX0_goBy_47 : decode cX0_goBy 47 = .ok (.iload 5, 2) := by decide +kernel
theorem dX0_goBy_49 : decode cX0_goBy 49 = .ok (.invokestatic 81, 3) := by decide +kernel
theorem dX0_goBy_52 : decode cX0_goBy 52 = .ok (.goto 10, 3) := by decide +kernel
theorem dX0_goBy_55 : decode cX0_goBy 55 = .ok (.aload_n 1, 1) := by decide +kernel
theorem dX0_goBy_56 : decode cX0_goBy 56 = .ok (.iload 5, 2) := by decide +kernel
theorem dX0_goBy_58 : decode cX0_goBy 58 = .ok (.invokestatic 84, 3) := by decide +kernel
theorem dX0_goBy_61 : decode cX0_goBy 61 = .ok (.ineg, 1) := by decide +kernel
theorem dX0_goBy_62 : decode cX0_goBy 62 = .ok (.istore 6, 2) := by decide +kernel
theorem dX0_goBy_64 : decode cX0_goBy 64 = .ok (.aload_n 2, 1) := by decide +kernel
theorem dX0_goBy_65 : decode cX0_goBy 65 = .ok (.getfield 88, 3) := by decide +kernel
theorem dX0_goBy_68 : decode cX0_goBy 68 = .ok (.iload 5, 2) := by decide +kernel
theorem dX0_goBy_70 : decode cX0_goBy 70 = .ok (.iconst 0, 1) := by decide +kernel
theorem dX0_goBy_71 : decode cX0_goBy 71 = .ok (.bipush 99, 2) := by decide +kernel
theorem dX0_goBy_73 : decode cX0_goBy 73 = .ok (.aload_n 2, 1) := by decide +kernel
theorem dX0_goBy_74 : decode cX0_goBy 74 = .ok (.getfield 88, 3) := by decide +kernel
theorem dX0_goBy_77 : decode cX0_goBy 77 = .ok (.iload 5, 2) := by decide +kernel
theorem dX0_goBy_79 : decode cX0_goBy 79 = .ok (.iaload, 1) := by decide +kernel
theorem dX0_goBy_80 : decode cX0_goBy 80 = .ok (.iload 6, 2) := by decide +kernel
theorem dX0_goBy_82 : decode cX0_goBy 82 = .ok (.iadd, 1) := by decide +kernel
theorem dX0_goBy_83 : decode cX0_goBy 83 = .ok (.invokestatic 91, 3) := by decide +kernel
theorem dX0_goBy_86 : decode cX0_goBy 86 = .ok (.invokestatic 65, 3) := by decide +kernel
theorem dX0_goBy_89 : decode cX0_goBy 89 = .ok (.iastore, 1) := by decide +kernel
theorem dX0_goBy_90 : decode cX0_goBy 90 = .ok (.iinc 5 1, 3) := by decide +kernel
theorem dX0_goBy_93 : decode cX0_goBy 93 = .ok (.goto (-73), 3) := by decide +kernel
theorem dX0_goBy_96 : decode cX0_goBy 96 = .ok (.aload_n 1, 1) := by decide +kernel
theorem dX0_goBy_97 : decode cX0_goBy 97 = .ok (.aload_n 2, 1) := by decide +kernel
theorem dX0_goBy_98 : decode cX0_goBy 98 = .ok (.iload_n 3, 1) := by decide +kernel
theorem dX0_goBy_99 : decode cX0_goBy 99 = .ok (.invokestatic 94, 3) := by decide +kernel
theorem dX0_goBy_102 : decode cX0_goBy 102 = .ok (.istore 5, 2) := by decide +kernel
theorem dX0_goBy_104 : decode cX0_goBy 104 = .ok (.aload_n 2, 1) := by decide +kernel
theorem dX0_goBy_105 : decode cX0_goBy 105 = .ok (.dup, 1) := by decide +kernel
theorem dX0_goBy_106 : decode cX0_goBy 106 = .ok (.getfield 41, 3) := by decide +kernel
theorem dX0_goBy_109 : decode cX0_goBy 109 = .ok (.iload 5, 2) := by decide +kernel
theorem dX0_goBy_111 : decode cX0_goBy 111 = .ok (.ior, 1) := by decide +kernel
theorem dX0_goBy_112 : decode cX0_goBy 112 = .ok (.putfield 41, 3) := by decide +kernel
theorem dX0_goBy_115 : decode cX0_goBy 115 = .ok (.aload_n 1, 1) := by decide +kernel
theorem dX0_goBy_116 : decode cX0_goBy 116 = .ok (.aload_n 2, 1) := by decide +kernel
theorem dX0_goBy_117 : decode cX0_goBy 117 = .ok (.iload 4, 2) := by decide +kernel
theorem dX0_goBy_119 : decode cX0_goBy 119 = .ok (.invokestatic 97, 3) := by decide +kernel
theorem dX0_goBy_122 : decode cX0_goBy 122 = .ok (.aload_n 2, 1) := by decide +kernel
theorem dX0_goBy_123 : decode cX0_goBy 123 = .ok (.dup, 1) := by decide +kernel
theorem dX0_goBy_124 : decode cX0_goBy 124 = .ok (.getfield 75, 3) := by decide +kernel
theorem dX0_goBy_127 : decode cX0_goBy 127 = .ok (.iconst 1, 1) := by decide +kernel
theorem dX0_goBy_128 : decode cX0_goBy 128 = .ok (.iadd, 1) := by decide +kernel
theorem dX0_goBy_129 : decode cX0_goBy 129 = .ok (.putfield 75, 3) := by decide +kernel
theorem dX0_goBy_132 : decode cX0_goBy 132 = .ok (.iload 5, 2) := by decide +kernel
theorem dX0_goBy_134 : decode cX0_goBy 134 = .ok (.ireturn, 1) := by decide +kernel
theorem dX0_tiring_0 : decode cX0_tiring 0 = .ok (.aload_n 0, 1) := by decide +kernel
theorem dX0_tiring_1 : decode cX0_tiring 1 = .ok (.getfield 101, 3) := by decide +kernel
theorem dX0_tiring_4 : decode cX0_tiring 4 = .ok (.iload_n 2, 1) := by decide +kernel
theorem dX0_tiring_5 : decode cX0_tiring 5 = .ok (.iaload, 1) := by decide +kernel
theorem dX0_tiring_6 : decode cX0_tiring 6 = .ok (.iconst 2, 1) := by decide +kernel
theorem dX0_tiring_7 : decode cX0_tiring 7 = .ok (.if_icmp .eq 22, 3) := by decide +kernel
theorem dX0_tiring_10 : decode cX0_tiring 10 = .ok (.aload_n 0, 1) := by decide +kernel
theorem dX0_tiring_11 : decode cX0_tiring 11 = .ok (.getfield 101, 3) := by decide +kernel
theorem dX0_tiring_14 : decode cX0_tiring 14 = .ok (.iload_n 2, 1) := by decide +kernel
theorem dX0_tiring_15 : decode cX0_tiring 15 = .ok (.iaload, 1) := by decide +kernel
theorem dX0_tiring_16 : decode cX0_tiring 16 = .ok (.iconst 1, 1) := by decide +kernel
theorem dX0_tiring_17 : decode cX0_tiring 17 = .ok (.if_icmp .ne 16, 3) := by decide +kernel
theorem dX0_tiring_20 : decode cX0_tiring 20 = .ok (.aload_n 0, 1) := by decide +kernel
theorem dX0_tiring_21 : decode cX0_tiring 21 = .ok (.aload_n 1, 1) := by decide +kernel
theorem dX0_tiring_22 : decode cX0_tiring 22 = .ok (.iload_n 2, 1) := by decide +kernel
theorem dX0_tiring_23 : decode cX0_tiring 23 = .ok (.invokestatic 104, 3) := by decide +kernel
theorem dX0_tiring_26 : decode cX0_tiring 26 = .ok (.ifCond .eq 7, 3) := by decide +kernel
theorem dX0_tiring_29 : decode cX0_tiring 29 = .ok (.iconst 1, 1) := by decide +kernel
theorem dX0_tiring_30 : decode cX0_tiring 30 = .ok (.goto 4, 3) := by decide +kernel
theorem dX0_tiring_33 : decode cX0_tiring 33 = .ok (.iconst 0, 1) := by decide +kernel
theorem dX0_tiring_34 : decode cX0_tiring 34 = .ok (.istore_n 3, 1) := by decide +kernel
theorem dX0_tiring_35 : decode cX0_tiring 35 = .ok (.iload_n 3, 1) := by decide +kernel
theorem dX0_tiring_36 : decode cX0_tiring 36 = .ok (.ifCond .eq 7, 3) := by decide +kernel
theorem dX0_tiring_39 : decode cX0_tiring 39 = .ok (.iconst 2, 1) := by decide +kernel
theorem dX0_tiring_40 : decode cX0_tiring 40 = .ok (.goto 4, 3) := by decide +kernel
theorem dX0_tiring_43 : decode cX0_tiring 43 = .ok (.iconst 1, 1) := by decide +kernel
theorem dX0_tiring_44 : decode cX0_tiring 44 = .ok (.ireturn, 1) := by decide +kernel
theorem dX0_resting_0 : decode cX0_resting 0 = .ok (.aload_n 0, 1) := by decide +kernel
theorem dX0_resting_1 : decode cX0_resting 1 = .ok (.getfield 101, 3) := by decide +kernel
theorem dX0_resting_4 : decode cX0_resting 4 = .ok (.iload_n 1, 1) := by decide +kernel
theorem dX0_resting_5 : decode cX0_resting 5 = .ok (.iaload, 1) := by decide +kernel
theorem dX0_resting_6 : decode cX0_resting 6 = .ok (.iconst 2, 1) := by decide +kernel
theorem dX0_resting_7 : decode cX0_resting 7 = .ok (.if_icmp .ne 7, 3) := by decide +kernel
theorem dX0_resting_10 : decode cX0_resting 10 = .ok (.iconst 1, 1) := by decide +kernel
theorem dX0_resting_11 : decode cX0_resting 11 = .ok (.goto 4, 3) := by decide +kernel
theorem dX0_resting_14 : decode cX0_resting 14 = .ok (.iconst 2, 1) := by decide +kernel
theorem dX0_resting_15 : decode cX0_resting 15 = .ok (.ireturn, 1) := by decide +kernel
theorem dX0_isAlone_0 : decode cX0_isAlone 0 = .ok (.iconst 0, 1) := by decide +kernel
theorem dX0_isAlone_1 : decode cX0_isAlone 1 = .ok (.istore_n 3, 1) := by decide +kernel
theorem dX0_isAlone_2 : decode cX0_isAlone 2 = .ok (.iload_n 3, 1) := by decide +kernel
theorem dX0_isAlone_3 : decode cX0_isAlone 3 = .ok (.aload_n 0, 1) := by decide +kernel
theorem dX0_isAlone_4 : decode cX0_isAlone 4 = .ok (.getfield 46, 3) := by decide +kernel
theorem dX0_isAlone_7 : decode cX0_isAlone 7 = .ok (.if_icmp .ge 62, 3) := by decide +kernel
theorem dX0_isAlone_10 : decode cX0_isAlone 10 = .ok (.iload_n 3, 1) := by decide +kernel
theorem dX0_isAlone_11 : decode cX0_isAlone 11 = .ok (.bipush 6, 2) := by decide +kernel
theorem dX0_isAlone_13 : decode cX0_isAlone 13 = .ok (.if_icmp .ge 56, 3) := by decide +kernel
theorem dX0_isAlone_16 : decode cX0_isAlone 16 = .ok (.aload_n 1, 1) := by decide +kernel
theorem dX0_isAlone_17 : decode cX0_isAlone 17 = .ok (.getfield 49, 3) := by decide +kernel
theorem dX0_isAlone_20 : decode cX0_isAlone 20 = .ok (.iload_n 3, 1) := by decide +kernel
theorem dX0_isAlone_21 : decode cX0_isAlone 21 = .ok (.iaload, 1) := by decide +kernel
theorem dX0_isAlone_22 : decode cX0_isAlone 22 = .ok (.aload_n 1, 1) := by decide +kernel
theorem dX0_isAlone_23 : decode cX0_isAlone 23 = .ok (.getfield 49, 3) := by decide +kernel
theorem dX0_isAlone_26 : decode cX0_isAlone 26 = .ok (.iload_n 2, 1) := by decide +kernel
theorem dX0_isAlone_27 : decode cX0_isAlone 27 = .ok (.iaload, 1) := by decide +kernel
theorem dX0_isAlone_28 : decode cX0_isAlone 28 = .ok (.isub, 1) := by decide +kernel
theorem dX0_isAlone_29 : decode cX0_isAlone 29 = .ok (.invokestatic 108, 3) := by decide +kernel
theorem dX0_isAlone_32 : decode cX0_isAlone 32 = .ok (.iconst 1, 1) := by decide +kernel
theorem dX0_isAlone_33 : decode cX0_isAlone 33 = .ok (.if_icmp .gt 7, 3) := by decide +kernel
theorem dX0_isAlone_36 : decode cX0_isAlone 36 = .ok (.iconst 1, 1) := by decide +kernel
theorem dX0_isAlone_37 : decode cX0_isAlone 37 = .ok (.goto 4, 3) := by decide +kernel
theorem dX0_isAlone_40 : decode cX0_isAlone 40 = .ok (.iconst 0, 1) := by decide +kernel
theorem dX0_isAlone_41 : decode cX0_isAlone 41 = .ok (.istore 4, 2) := by decide +kernel
theorem dX0_isAlone_43 : decode cX0_isAlone 43 = .ok (.iload_n 3, 1) := by decide +kernel
theorem dX0_isAlone_44 : decode cX0_isAlone 44 = .ok (.iload_n 2, 1) := by decide +kernel
theorem dX0_isAlone_45 : decode cX0_isAlone 45 = .ok (.if_icmp .eq 18, 3) := by decide +kernel
theorem dX0_isAlone_48 : decode cX0_isAlone 48 = .ok (.aload_n 1, 1) := by decide +kernel
theorem dX0_isAlone_49 : decode cX0_isAlone 49 = .ok (.iload_n 3, 1) := by decide +kernel
theorem dX0_isAlone_50 : decode cX0_isAlone 50 = .ok (.invokevirtual 52, 3) := by decide +kernel
theorem dX0_isAlone_53 : decode cX0_isAlone 53 = .ok (.ifCond .eq 10, 3) := by decide +kernel
theorem dX0_isAlone_56 : decode cX0_isAlone 56 = .ok (.iload 4, 2) := by decide +kernel
theorem dX0_isAlone_58 : decode cX0_isAlone 58 = .ok (.ifCond .eq 5, 3) := by decide +kernel
theorem dX0_isAlone_61 : decode cX0_isAlone 61 = .ok (.iconst 0, 1) := by decide +kernel
theorem dX0_isAlone_62 : decode cX0_isAlone 62 = .ok (.ireturn, 1) := by decide +kernel
theorem dX0_isAlone_63 : decode cX0_isAlone 63 = .ok (.iinc 3 1, 3) := by decide +kernel
theorem dX0_isAlone_66 : decode cX0_isAlone 66 = .ok (.goto (-64), 3) := by decide +kernel
theorem dX0_isAlone_69 : decode cX0_isAlone 69 = .ok (.iconst 1, 1) := by decide +kernel
theorem dX0_isAlone_70 : decode cX0_isAlone 70 = .ok (.ireturn, 1) := by decide +kernel
theorem dX0_ageBays_0 : decode cX0_ageBays 0 = .ok (.iconst 0, 1) := by decide +kernel
theorem dX0_ageBays_1 : decode cX0_ageBays 1 = .ok (.istore_n 3, 1) := by decide +kernel
theorem dX0_ageBays_2 : decode cX0_ageBays 2 = .ok (.iconst 0, 1) := by decide +kernel
theorem dX0_ageBays_3 : decode cX0_ageBays 3 = .ok (.istore 4, 2) := by decide +kernel
theorem dX0_ageBays_5 : decode cX0_ageBays 5 = .ok (.iload 4, 2) := by decide +kernel
theorem dX0_ageBays_7 : decode cX0_ageBays 7 = .ok (.aload_n 0, 1) := by decide +kernel
theorem dX0_ageBays_8 : decode cX0_ageBays 8 = .ok (.getfield 25, 3) := by decide +kernel
theorem dX0_ageBays_11 : decode cX0_ageBays 11 = .ok (.if_icmp .ge 81, 3) := by decide +kernel
theorem dX0_ageBays_14 : decode cX0_ageBays 14 = .ok (.iload 4, 2) := by decide +kernel
theorem dX0_ageBays_16 : decode cX0_ageBays 16 = .ok (.bipush 8, 2) := by decide +kernel
theorem dX0_ageBays_18 : decode cX0_ageBays 18 = .ok (.if_icmp .ge 74, 3) := by decide +kernel
theorem dX0_ageBays_21 : decode cX0_ageBays 21 = .ok (.aload_n 1, 1) := by decide +kernel
theorem dX0_ageBays_22 : decode cX0_ageBays 22 = .ok (.iload 4, 2) := by decide +kernel
theorem dX0_ageBays_24 : decode cX0_ageBays 24 = .ok (.invokevirtual 62, 3) := by decide +kernel
theorem dX0_ageBays_27 : decode cX0_ageBays 27 = .ok (.ifCond .eq 6, 3) := by decide +kernel
theorem dX0_ageBays_30 : decode cX0_ageBays 30 = .ok (.goto 56, 3) := by decide +kernel
theorem dX0_ageBays_33 : decode cX0_ageBays 33 = .ok (.aload_n 1, 1) := by decide +kernel
theorem dX0_ageBays_34 : decode cX0_ageBays 34 = .ok (.getfield 112, 3) := by decide +kernel
theorem dX0_ageBays_37 : decode cX0_ageBays 37 = .ok (.iload 4, 2) := by decide +kernel
theorem dX0_ageBays_39 : decode cX0_ageBays 39 = .ok (.iload_n 2, 1) := by decide +kernel
theorem dX0_ageBays_40 : decode cX0_ageBays 40 = .ok (.iload 4, 2) := by decide +kernel
theorem dX0_ageBays_42 : decode cX0_ageBays 42 = .ok (.invokestatic 115, 3) := by decide +kernel
theorem dX0_ageBays_45 : decode cX0_ageBays 45 = .ok (.ifCond .eq 7, 3) := by decide +kernel
theorem dX0_ageBays_48 : decode cX0_ageBays 48 = .ok (.iconst 0, 1) := by decide +kernel
theorem dX0_ageBays_49 : decode cX0_ageBays 49 = .ok (.goto 12, 3) := by decide +kernel
theorem dX0_ageBays_52 : decode cX0_ageBays 52 = .ok (.aload_n 1, 1) := by decide +kernel
theorem dX0_ageBays_53 : decode cX0_ageBays 53 = .ok (.getfield 112, 3) := by decide +kernel
theorem dX0_ageBays_56 : decode cX0_ageBays 56 = .ok (.iload 4, 2) := by decide +kernel
theorem dX0_ageBays_58 : decode cX0_ageBays 58 = .ok (.iaload, 1) := by decide +kernel
theorem dX0_ageBays_59 : decode cX0_ageBays 59 = .ok (.iconst 1, 1) := by decide +kernel
theorem dX0_ageBays_60 : decode cX0_ageBays 60 = .ok (.iadd, 1) := by decide +kernel
theorem dX0_ageBays_61 : decode cX0_ageBays 61 = .ok (.iastore, 1) := by decide +kernel
theorem dX0_ageBays_62 : decode cX0_ageBays 62 = .ok (.aload_n 1, 1) := by decide +kernel
theorem dX0_ageBays_63 : decode cX0_ageBays 63 = .ok (.getfield 112, 3) := by decide +kernel
theorem dX0_ageBays_66 : decode cX0_ageBays 66 = .ok (.iload 4, 2) := by decide +kernel
theorem dX0_ageBays_68 : decode cX0_ageBays 68 = .ok (.iaload, 1) := by decide +kernel
theorem dX0_ageBays_69 : decode cX0_ageBays 69 = .ok (.aload_n 0, 1) := by decide +kernel
theorem dX0_ageBays_70 : decode cX0_ageBays 70 = .ok (.getfield 119, 3) := by decide +kernel
theorem dX0_ageBays_73 : decode cX0_ageBays 73 = .ok (.iload 4, 2) := by decide +kernel
theorem dX0_ageBays_75 : decode cX0_ageBays 75 = .ok (.iaload, 1) := by decide +kernel
theorem dX0_ageBays_76 : decode cX0_ageBays 76 = .ok (.if_icmp .le 10, 3) := by decide +kernel
theorem dX0_ageBays_79 : decode cX0_ageBays 79 = .ok (.iload_n 3, 1) := by decide +kernel
theorem dX0_ageBays_80 : decode cX0_ageBays 80 = .ok (.iconst 1, 1) := by decide +kernel
theorem dX0_ageBays_81 : decode cX0_ageBays 81 = .ok (.iload 4, 2) := by decide +kernel
theorem dX0_ageBays_83 : decode cX0_ageBays 83 = .ok (.ishl, 1) := by decide +kernel
theorem dX0_ageBays_84 : decode cX0_ageBays 84 = .ok (.ior, 1) := by decide +kernel
theorem dX0_ageBays_85 : decode cX0_ageBays 85 = .ok (.istore_n 3, 1) := by decide +kernel
theorem dX0_ageBays_86 : decode cX0_ageBays 86 = .ok (.iinc 4 1, 3) := by decide +kernel
theorem dX0_ageBays_89 : decode cX0_ageBays 89 = .ok (.goto (-84), 3) := by decide +kernel
theorem dX0_ageBays_92 : decode cX0_ageBays 92 = .ok (.iload_n 3, 1) := by decide +kernel
theorem dX0_ageBays_93 : decode cX0_ageBays 93 = .ok (.ireturn, 1) := by decide +kernel
theorem dX0_leaveTired_0 : decode cX0_leaveTired 0 = .ok (.iconst 0, 1) := by decide +kernel
theorem dX0_leaveTired_1 : decode cX0_leaveTired 1 = .ok (.istore_n 3, 1) := by decide +kernel
theorem dX0_leaveTired_2 : decode cX0_leaveTired 2 = .ok (.iload_n 3, 1) := by decide +kernel
theorem dX0_leaveTired_3 : decode cX0_leaveTired 3 = .ok (.aload_n 0, 1) := by decide +kernel
theorem dX0_leaveTired_4 : decode cX0_leaveTired 4 = .ok (.getfield 46, 3) := by decide +kernel
theorem dX0_leaveTired_7 : decode cX0_leaveTired 7 = .ok (.if_icmp .ge 74, 3) := by decide +kernel
theorem dX0_leaveTired_10 : decode cX0_leaveTired 10 = .ok (.iload_n 3, 1) := by decide +kernel
theorem dX0_leaveTired_11 : decode cX0_leaveTired 11 = .ok (.bipush 6, 2) := by decide +kernel
theorem dX0_leaveTired_13 : decode cX0_leaveTired 13 = .ok (.if_icmp .ge 68, 3) := by decide +kernel
theorem dX0_leaveTired_16 : decode cX0_leaveTired 16 = .ok (.aload_n 1, 1) := by decide +kernel
theorem dX0_leaveTired_17 : decode cX0_leaveTired 17 = .ok (.getfield 88, 3) := by decide +kernel
theorem dX0_leaveTired_20 : decode cX0_leaveTired 20 = .ok (.iload_n 3, 1) := by decide +kernel
theorem dX0_leaveTired_21 : decode cX0_leaveTired 21 = .ok (.iaload, 1) := by decide +kernel
theorem dX0_leaveTired_22 : decode cX0_leaveTired 22 = .ok (.aload_n 0, 1) := by decide +kernel
theorem dX0_leaveTired_23 : decode cX0_leaveTired 23 = .ok (.getfield 122, 3) := by decide +kernel
theorem dX0_leaveTired_26 : decode cX0_leaveTired 26 = .ok (.iload_n 3, 1) := by decide +kernel
theorem dX0_leaveTired_27 : decode cX0_leaveTired 27 = .ok (.iaload, 1) := by decide +kernel
theorem dX0_leaveTired_28 : decode cX0_leaveTired 28 = .ok (.if_icmp .le 21, 3) := by decide +kernel
theorem dX0_leaveTired_31 : decode cX0_leaveTired 31 = .ok (.iload_n 2, 1) := by decide +kernel
theorem dX0_leaveTired_32 : decode cX0_leaveTired 32 = .ok (.ifCond .eq 13, 3) := by decide +kernel
theorem dX0_leaveTired_35 : decode cX0_leaveTired 35 = .ok (.aload_n 0, 1) := by decide +kernel
theorem dX0_leaveTired_36 : decode cX0_leaveTired 36 = .ok (.getfield 101, 3) := by decide +kernel
theorem dX0_leaveTired_39 : decode cX0_leaveTired 39 = .ok (.iload_n 3, 1) := by decide +kernel
theorem dX0_leaveTired_40 : decode cX0_leaveTired 40 = .ok (.iaload, 1) := by decide +kernel
theorem dX0_leaveTired_41 : decode cX0_leaveTired 41 = .ok (.iconst 3, 1) := by decide +kernel
theorem dX0_leaveTired_42 : decode cX0_leaveTired 42 = .ok (.if_icmp .eq 7, 3) := by decide +kernel
theorem dX0_leaveTired_45 : decode cX0_leaveTired 45 = .ok (.iconst 1, 1) := by decide +kernel
theorem dX0_leaveTired_46 : decode cX0_leaveTired 46 = .ok (.goto 4, 3) := by decide +kernel
theorem dX0_leaveTired_49 : decode cX0_leaveTired 49 = .ok (.iconst 0, 1) := by decide +kernel
theorem dX0_leaveTired_50 : decode cX0_leaveTired 50 = .ok (.istore 4, 2) := by decide +kernel
theorem dX0_leaveTired_52 : decode cX0_leaveTired 52 = .ok (.iload 4, 2) := by decide +kernel
theorem dX0_leaveTired_54 : decode cX0_leaveTired 54 = .ok (.ifCond .ne 16, 3) := by decide +kernel
theorem dX0_leaveTired_57 : decode cX0_leaveTired 57 = .ok (.aload_n 1, 1) := by decide +kernel
theorem dX0_leaveTired_58 : decode cX0_leaveTired 58 = .ok (.aload_n 1, 1) := by decide +kernel
theorem dX0_leaveTired_59 : decode cX0_leaveTired 59 = .ok (.getfield 49, 3) := by decide +kernel
theorem dX0_leaveTired_62 : decode cX0_leaveTired 62 = .ok (.iload_n 3, 1) := by decide +kernel
theorem dX0_leaveTired_63 : decode cX0_leaveTired 63 = .ok (.iaload, 1) := by decide +kernel
theorem dX0_leaveTired_64 : decode cX0_leaveTired 64 = .ok (.invokevirtual 62, 3) := by decide +kernel
theorem dX0_leaveTired_67 : decode cX0_leaveTired 67 = .ok (.ifCond .eq 8, 3) := by decide +kernel
theorem dX0_leaveTired_70 : decode cX0_leaveTired 70 = .ok (.aload_n 1, 1) := by decide +kernel
theorem dX0_leaveTired_71 : decode cX0_leaveTired 71 = .ok (.iload_n 3, 1) := by decide +kernel
theorem dX0_leaveTired_72 : decode cX0_leaveTired 72 = .ok (.invokevirtual 125, 3) := by decide +kernel
theorem dX0_leaveTired_75 : decode cX0_leaveTired 75 = .ok (.iinc 3 1, 3) := by decide +kernel
theorem dX0_leaveTired_78 : decode cX0_leaveTired 78 = .ok (.goto (-76), 3) := by decide +kernel
theorem dX0_leaveTired_81 : decode cX0_leaveTired 81 = .ok (.return_, 1) := by decide +kernel
theorem dX1_init_0 : decode cX1_init 0 = .ok (.aload_n 0, 1) := by decide +kernel
theorem dX1_init_1 : decode cX1_init 1 = .ok (.invokespecial 3, 3) := by decide +kernel
theorem dX1_init_4 : decode cX1_init 4 = .ok (.aload_n 0, 1) := by decide +kernel
theorem dX1_init_5 : decode cX1_init 5 = .ok (.iconst 4, 1) := by decide +kernel
theorem dX1_init_6 : decode cX1_init 6 = .ok (.newarray .int, 2) := by decide +kernel
theorem dX1_init_8 : decode cX1_init 8 = .ok (.putfield 9, 3) := by decide +kernel
theorem dX1_init_11 : decode cX1_init 11 = .ok (.return_, 1) := by decide +kernel
theorem dX1_readWall_0 : decode cX1_readWall 0 = .ok (.aload_n 2, 1) := by decide +kernel
theorem dX1_readWall_1 : decode cX1_readWall 1 = .ok (.invokevirtual 15, 3) := by decide +kernel
theorem dX1_readWall_4 : decode cX1_readWall 4 = .ok (.aload_n 0, 1) := by decide +kernel
theorem dX1_readWall_5 : decode cX1_readWall 5 = .ok (.iconst 0, 1) := by decide +kernel
theorem dX1_readWall_6 : decode cX1_readWall 6 = .ok (.putfield 20, 3) := by decide +kernel
theorem dX1_readWall_9 : decode cX1_readWall 9 = .ok (.iconst 0, 1) := by decide +kernel
theorem dX1_readWall_10 : decode cX1_readWall 10 = .ok (.istore_n 3, 1) := by decide +kernel
theorem dX1_readWall_11 : decode cX1_readWall 11 = .ok (.iload_n 3, 1) := by decide +kernel
theorem dX1_readWall_12 : decode cX1_readWall 12 = .ok (.sipush 200, 3) := by decide +kernel
theorem dX1_readWall_15 : decode cX1_readWall 15 = .ok (.if_icmp .ge 38, 3) := by decide +kernel
theorem dX1_readWall_18 : decode cX1_readWall 18 = .ok (.aload_n 0, 1) := by decide +kernel
theorem dX1_readWall_19 : decode cX1_readWall 19 = .ok (.getfield 20, 3) := by decide +kernel
theorem dX1_readWall_22 : decode cX1_readWall 22 = .ok (.aload_n 1, 1) := by decide +kernel
theorem dX1_readWall_23 : decode cX1_readWall 23 = .ok (.getfield 24, 3) := by decide +kernel
theorem dX1_readWall_26 : decode cX1_readWall 26 = .ok (.if_icmp .ge 27, 3) := by decide +kernel
theorem dX1_readWall_29 : decode cX1_readWall 29 = .ok (.aload_n 0, 1) := by decide +kernel
theorem dX1_readWall_30 : decode cX1_readWall 30 = .ok (.getfield 20, 3) := by decide +kernel
theorem dX1_readWall_33 : decode cX1_readWall 33 = .ok (.istore 4, 2) := by decide +kernel
theorem dX1_readWall_35 : decode cX1_readWall 35 = .ok (.aload_n 0, 1) := by decide +kernel
theorem dX1_readWall_36 : decode cX1_readWall 36 = .ok (.aload_n 1, 1) := by decide +kernel
theorem dX1_readWall_37 : decode cX1_readWall 37 = .ok (.aload_n 2, 1) := by decide +kernel
theorem dX1_readWall_38 : decode cX1_readWall 38 = .ok (.invokevirtual 29, 3) := by decide +kernel
theorem dX1_readWall_41 : decode cX1_readWall 41 = .ok (.ifCond .ne 6, 3) := by decide +kernel
theorem dX1_readWall_44 : decode cX1_readWall 44 = .ok (.iload 4, 2) := by decide +kernel
theorem dX1_readWall_46 : decode cX1_readWall 46 = .ok (.ireturn, 1) := by decide +kernel
theorem dX1_readWall_47 : decode cX1_readWall 47 = .ok (.iinc 3 1, 3) := by decide +kernel
theorem dX1_readWall_50 : decode cX1_readWall 50 = .ok (.goto (-39), 3) := by decide +kernel
theorem dX1_readWall_53 : decode cX1_readWall 53 = .ok (.bipush (-4), 2) := by decide +kernel
theorem dX1_readWall_55 : decode cX1_readWall 55 = .ok (.ireturn, 1) := by decide +kernel
theorem dX1_readItem_0 : decode cX1_readItem 0 = .ok (.aload_n 1, 1) := by decide +kernel
theorem dX1_readItem_1 : decode cX1_readItem 1 = .ok (.aload_n 0, 1) := by decide +kernel
theorem dX1_readItem_2 : decode cX1_readItem 2 = .ok (.getfield 20, 3) := by decide +kernel
theorem dX1_readItem_5 : decode cX1_readItem 5 = .ok (.invokevirtual 33, 3) := by decide +kernel
theorem dX1_readItem_8 : decode cX1_readItem 8 = .ok (.istore_n 3, 1) := by decide +kernel
theorem dX1_readItem_9 : decode cX1_readItem 9 = .ok (.aload_n 0, 1) := by decide +kernel
theorem dX1_readItem_10 : decode cX1_readItem 10 = .ok (.dup, 1) := by decide +kernel
theorem dX1_readItem_11 : decode cX1_readItem 11 = .ok (.getfield 20, 3) := by decide +kernel
theorem dX1_readItem_14 : decode cX1_readItem 14 = .ok (.iconst 1, 1) := by decide +kernel
theorem dX1_readItem_15 : decode cX1_readItem 15 = .ok (.iadd, 1) := by decide +kernel
theorem dX1_readItem_16 : decode cX1_readItem 16 = .ok (.putfield 20, 3) := by decide +kernel
theorem dX1_readItem_19 : decode cX1_readItem 19 = .ok (.iload_n 3, 1) := by decide +kernel
theorem dX1_readItem_20 : decode cX1_readItem 20 = .ok (.invokestatic 37, 3) := by decide +kernel
theorem dX1_readItem_23 : decode cX1_readItem 23 = .ok (.istore 4, 2) := by decide +kernel
theorem dX1_readItem_25 : decode cX1_readItem 25 = .ok (.iload 4, 2) := by decide +kernel
theorem dX1_readItem_27 : decode cX1_readItem 27 = .ok (.ifCond .ne 5, 3) := by decide +kernel
theorem dX1_readItem_30 : decode cX1_readItem 30 = .ok (.iconst 0, 1) := by decide +kernel
theorem dX1_readItem_31 : decode cX1_readItem 31 = .ok (.ireturn, 1) := by decide +kernel
theorem dX1_readItem_32 : decode cX1_readItem 32 = .ok (.iconst 0, 1) := by decide +kernel
theorem dX1_readItem_33 : decode cX1_readItem 33 = .ok (.istore 5, 2) := by decide +kernel
theorem dX1_readItem_35 : decode cX1_readItem 35 = .ok (.iload 5, 2) := by decide +kernel
theorem dX1_readItem_37 : decode cX1_readItem 37 = .ok (.iload 4, 2) := by decide +kernel
theorem dX1_readItem_39 : decode cX1_readItem 39 = .ok (.if_icmp .ge 58, 3) := by decide +kernel
theorem dX1_readItem_42 : decode cX1_readItem 42 = .ok (.aload_n 0, 1) := by decide +kernel
theorem dX1_readItem_43 : decode cX1_readItem 43 = .ok (.aload_n 1, 1) := by decide +kernel
theorem dX1_readItem_44 : decode cX1_readItem 44 = .ok (.iload 5, 2) := by decide +kernel
theorem dX1_readItem_46 : decode cX1_readItem 46 = .ok (.invokevirtual 41, 3) := by decide +kernel
theorem dX1_readItem_49 : decode cX1_readItem 49 = .ok (.ifCond .eq 30, 3) := by decide +kernel
theorem dX1_readItem_52 : decode cX1_readItem 52 = .ok (.aload_n 1, 1) := by decide +kernel
theorem dX1_readItem_53 : decode cX1_readItem 53 = .ok (.aload_n 0, 1) := by decide +kernel
theorem dX1_readItem_54 : decode cX1_readItem 54 = .ok (.getfield 20, 3) := by decide +kernel
theorem dX1_readItem_57 : decode cX1_readItem 57 = .ok (.invokevirtual 33, 3) := by decide +kernel
theorem dX1_readItem_60 : decode cX1_readItem 60 = .ok (.iload 5, 2) := by decide +kernel
theorem dX1_readItem_62 : decode cX1_readItem 62 = .ok (.iload 4, 2) := by decide +kernel
theorem dX1_readItem_64 : decode cX1_readItem 64 = .ok (.iconst 1, 1) := by decide +kernel
theorem dX1_readItem_65 : decode cX1_readItem 65 = .ok (.isub, 1) := by decide +kernel
theorem dX1_readItem_66 : decode cX1_readItem 66 = .ok (.if_icmp .ne 8, 3) := by decide +kernel
theorem dX1_readItem_69 : decode cX1_readItem 69 = .ok (.bipush 59, 2) := by decide +kernel
theorem dX1_readItem_71 : decode cX1_readItem 71 = .ok (.goto 5, 3) := by decide +kernel
theorem dX1_readItem_74 : decode cX1_readItem 74 = .ok (.bipush 44, 2) := by decide +kernel
theorem dX1_readItem_76 : decode cX1_readItem 76 = .ok (.if_icmp .eq 5, 3) := by decide +kernel
theorem dX1_readItem_79 : decode cX1_readItem 79 = .ok (.iconst 0, 1) := by decide +kernel
theorem dX1_readItem_80 : decode cX1_readItem 80 = .ok (.ireturn, 1) := by decide +kernel
theorem dX1_readItem_81 : decode cX1_readItem 81 = .ok (.aload_n 0, 1) := by decide +kernel
theorem dX1_readItem_82 : decode cX1_readItem 82 = .ok (.dup, 1) := by decide +kernel
theorem dX1_readItem_83 : decode cX1_readItem 83 = .ok (.getfield 20, 3) := by decide +kernel
theorem dX1_readItem_86 : decode cX1_readItem 86 = .ok (.iconst 1, 1) := by decide +kernel
theorem dX1_readItem_87 : decode cX1_readItem 87 = .ok (.iadd, 1) := by decide +kernel
theorem dX1_readItem_88 : decode cX1_readItem 88 = .ok (.putfield 20, 3) := by decide +kernel
theorem dX1_readItem_91 : decode cX1_readItem 91 = .ok (.iinc 5 1, 3) := by decide +kernel
theorem dX1_readItem_94 : decode cX1_readItem 94 = .ok (.goto (-59), 3) := by decide +kernel
theorem dX1_readItem_97 : decode cX1_readItem 97 = .ok (.aload_n 0, 1) := by decide +kernel
theorem dX1_readItem_98 : decode cX1_readItem 98 = .ok (.iload_n 3, 1) := by decide +kernel
theorem dX1_readItem_99 : decode cX1_readItem 99 = .ok (.aload_n 2, 1) := by decide +kernel
theorem dX1_readItem_100 : decode cX1_readItem 100 = .ok (.invokevirtual 45, 3) := by decide +kernel
theorem dX1_readItem_103 : decode cX1_readItem 103 = .ok (.ireturn, 1) := by decide +kernel
theorem dX1_readNumber_0 : decode cX1_readNumber 0 = .ok (.aload_n 1, 1) := by decide +kernel
theorem dX1_readNumber_1 : decode cX1_readNumber 1 = .ok (.aload_n 0, 1) := by decide +kernel
theorem dX1_readNumber_2 : decode cX1_readNumber 2 = .ok (.getfield 20, 3) := by decide +kernel
theorem dX1_readNumber_5 : decode cX1_readNumber 5 = .ok (.invokevirtual 33, 3) := by decide +kernel
theorem dX1_readNumber_8 : decode cX1_readNumber 8 = .ok (.invokestatic 49, 3) := by decide +kernel
theorem dX1_readNumber_11 : decode cX1_readNumber 11 = .ok (.istore_n 3, 1) := by decide +kernel
theorem dX1_readNumber_12 : decode cX1_readNumber 12 = .ok (.iload_n 3, 1) := by decide +kernel
theorem dX1_readNumber_13 : decode cX1_readNumber 13 = .ok (.ifCond .lt 16, 3) := by decide +kernel
theorem dX1_readNumber_16 : decode cX1_readNumber 16 = .ok (.iload_n 2, 1) := by decide +kernel
theorem dX1_readNumber_17 : decode cX1_readNumber 17 = .ok (.ifCond .lt 12, 3) := by decide +kernel
theorem dX1_readNumber_20 : decode cX1_readNumber 20 = .ok (.iload_n 2, 1) := by decide +kernel
theorem dX1_readNumber_21 : decode cX1_readNumber 21 = .ok (.aload_n 0, 1) := by decide +kernel
theorem dX1_readNumber_22 : decode cX1_readNumber 22 = .ok (.getfield 9, 3) := by decide +kernel
theorem dX1_readNumber_25 : decode cX1_readNumber 25 = .ok (.arraylength, 1) := by decide +kernel
theorem dX1_readNumber_26 : decode cX1_readNumber 26 = .ok (.if_icmp .lt 5, 3) := by decide +kernel
theorem dX1_readNumber_29 : decode cX1_readNumber 29 = .ok (.iconst 0, 1) := by decide +kernel
theorem dX1_readNumber_30 : decode cX1_readNumber 30 = .ok (.ireturn, 1) := by decide +kernel
theorem dX1_readNumber_31 : decode cX1_readNumber 31 = .ok (.aload_n 0, 1) := by decide +kernel
theorem dX1_readNumber_32 : decode cX1_readNumber 32 = .ok (.dup, 1) := by decide +kernel
theorem dX1_readNumber_33 : decode cX1_readNumber 33 = .ok (.getfield 20, 3) := by decide +kernel
theorem dX1_readNumber_36 : decode cX1_readNumber 36 = .ok (.iconst 1, 1) := by decide +kernel
theorem dX1_readNumber_37 : decode cX1_readNumber 37 = .ok (.iadd, 1) := by decide +kernel
theorem dX1_readNumber_38 : decode cX1_readNumber 38 = .ok (.putfield 20, 3) := by decide +kernel
theorem dX1_readNumber_41 : decode cX1_readNumber 41 = .ok (.aload_n 1, 1) := by decide +kernel
theorem dX1_readNumber_42 : decode cX1_readNumber 42 = .ok (.aload_n 0, 1) := by decide +kernel
theorem dX1_readNumber_43 : decode cX1_readNumber 43 = .ok (.getfield 20, 3) := by decide +kernel
theorem dX1_readNumber_46 : decode cX1_readNumber 46 = .ok (.invokevirtual 33, 3) := by decide +kernel
theorem dX1_readNumber_49 : decode cX1_readNumber 49 = .ok (.invokestatic 49, 3) := by decide +kernel
theorem dX1_readNumber_52 : decode cX1_readNumber 52 = .ok (.istore 4, 2) := by decide +kernel
theorem dX1_readNumber_54 : decode cX1_readNumber 54 = .ok (.iload 4, 2) := by decide +kernel
theorem dX1_readNumber_56 : decode cX1_readNumber 56 = .ok (.ifCond .lt 21, 3) := by decide +kernel
theorem dX1_readNumber_59 : decode cX1_readNumber 59 = .ok (.iload_n 3, 1) := by decide +kernel
theorem dX1_readNumber_60 : decode cX1_readNumber 60 = .ok (.bipush 10, 2) := by decide +kernel
theorem dX1_readNumber_62 : decode cX1_readNumber 62 = .ok (.imul, 1) := by decide +kernel
theorem dX1_readNumber_63 : decode cX1_readNumber 63 = .ok (.iload 4, 2) := by decide +kernel
theorem dX1_readNumber_65 : decode cX1_readNumber 65 = .ok (.iadd, 1) := by decide +kernel
theorem dX1_readNumber_66 : decode cX1_readNumber 66 = .ok (.istore_n 3, 1) := by decide +kernel
theorem dX1_readNumber_67 : decode cX1_readNumber 67 = .ok (.aload_n 0, 1) := by decide +kernel
theorem dX1_readNumber_68 : decode cX1_readNumber 68 = .ok (.dup, 1) := by decide +kernel
theorem dX1_readNumber_69 : decode cX1_readNumber 69 = .ok (.getfield 20, 3) := by decide +kernel
theorem dX1_readNumber_72 : decode cX1_readNumber 72 = .ok (.iconst 1, 1) := by decide +kernel
theorem dX1_readNumber_73 : decode cX1_readNumber 73 = .ok (.iadd, 1) := by decide +kernel
theorem dX1_readNumber_74 : decode cX1_readNumber 74 = .ok (.putfield 20, 3) := by decide +kernel
theorem dX1_readNumber_77 : decode cX1_readNumber 77 = .ok (.aload_n 0, 1) := by decide +kernel
theorem dX1_readNumber_78 : decode cX1_readNumber 78 = .ok (.getfield 9, 3) := by decide +kernel
theorem dX1_readNumber_81 : decode cX1_readNumber 81 = .ok (.iload_n 2, 1) := by decide +kernel
theorem dX1_readNumber_82 : decode cX1_readNumber 82 = .ok (.iload_n 3, 1) := by decide +kernel
theorem dX1_readNumber_83 : decode cX1_readNumber 83 = .ok (.iastore, 1) := by decide +kernel
theorem dX1_readNumber_84 : decode cX1_readNumber 84 = .ok (.iconst 1, 1) := by decide +kernel
theorem dX1_readNumber_85 : decode cX1_readNumber 85 = .ok (.ireturn, 1) := by decide +kernel
theorem dX1_takeItem_0 : decode cX1_takeItem 0 = .ok (.iload_n 1, 1) := by decide +kernel
theorem dX1_takeItem_1 : decode cX1_takeItem 1 = .ok (.tableswitch 92 98 102 #[35, 81, 92, 92, 52], 35) := by decide +kernel
theorem dX1_takeItem_36 : decode cX1_takeItem 36 = .ok (.aload_n 2, 1) := by decide +kernel
theorem dX1_takeItem_37 : decode cX1_takeItem 37 = .ok (.aload_n 0, 1) := by decide +kernel
theorem dX1_takeItem_38 : decode cX1_takeItem 38 = .ok (.getfield 9, 3) := by decide +kernel
theorem dX1_takeItem_41 : decode cX1_takeItem 41 = .ok (.iconst 0, 1) := by decide +kernel
theorem dX1_takeItem_42 : decode cX1_takeItem 42 = .ok (.iaload, 1) := by decide +kernel
theorem dX1_takeItem_43 : decode cX1_takeItem 43 = .ok (.aload_n 0, 1) := by decide +kernel
theorem dX1_takeItem_44 : decode cX1_takeItem 44 = .ok (.getfield 9, 3) := by decide +kernel
theorem dX1_takeItem_47 : decode cX1_takeItem 47 = .ok (.iconst 1, 1) := by decide +kernel
theorem dX1_takeItem_48 : decode cX1_takeItem 48 = .ok (.iaload, 1) := by decide +kernel
theorem dX1_takeItem_49 : decode cX1_takeItem 49 = .ok (.invokevirtual 52, 3) := by decide +kernel
theorem dX1_takeItem_52 : decode cX1_takeItem 52 = .ok (.ireturn, 1) := by decide +kernel
theorem dX1_takeItem_53 : decode cX1_takeItem 53 = .ok (.aload_n 2, 1) := by decide +kernel
theorem dX1_takeItem_54 : decode cX1_takeItem 54 = .ok (.aload_n 0, 1) := by decide +kernel
theorem dX1_takeItem_55 : decode cX1_takeItem 55 = .ok (.getfield 9, 3) := by decide +kernel
theorem dX1_takeItem_58 : decode cX1_takeItem 58 = .ok (.iconst 0, 1) := by decide +kernel
theorem dX1_takeItem_59 : decode cX1_takeItem 59 = .ok (.iaload, 1) := by decide +kernel
theorem dX1_takeItem_60 : decode cX1_takeItem 60 = .ok (.aload_n 0, 1) := by decide +kernel
theorem dX1_takeItem_61 : decode cX1_takeItem 61 = .ok (.getfield 9, 3) := by decide +kernel
theorem dX1_takeItem_64 : decode cX1_takeItem 64 = .ok (.iconst 1, 1) := by decide +kernel
theorem dX1_takeItem_65 : decode cX1_takeItem 65 = .ok (.iaload, 1) := by decide +kernel
theorem dX1_takeItem_66 : decode cX1_takeItem 66 = .ok (.aload_n 0, 1) := by decide +kernel
theorem dX1_takeItem_67 : decode cX1_takeItem 67 = .ok (.getfield 9, 3) := by decide +kernel
theorem dX1_takeItem_70 : decode cX1_takeItem 70 = .ok (.iconst 2, 1) := by decide +kernel
theorem dX1_takeItem_71 : decode cX1_takeItem 71 = .ok (.iaload, 1) := by decide +kernel
theorem dX1_takeItem_72 : decode cX1_takeItem 72 = .ok (.aload_n 0, 1) := by decide +kernel
theorem dX1_takeItem_73 : decode cX1_takeItem 73 = .ok (.getfield 9, 3) := by decide +kernel
theorem dX1_takeItem_76 : decode cX1_takeItem 76 = .ok (.iconst 3, 1) := by decide +kernel
theorem dX1_takeItem_77 : decode cX1_takeItem 77 = .ok (.iaload, 1) := by decide +kernel
theorem dX1_takeItem_78 : decode cX1_takeItem 78 = .ok (.invokevirtual 56, 3) := by decide +kernel
theorem dX1_takeItem_81 : decode cX1_takeItem 81 = .ok (.ireturn, 1) := by decide +kernel
theorem dX1_takeItem_82 : decode cX1_takeItem 82 = .ok (.aload_n 2, 1) := by decide +kernel
theorem dX1_takeItem_83 : decode cX1_takeItem 83 = .ok (.aload_n 0, 1) := by decide +kernel
theorem dX1_takeItem_84 : decode cX1_takeItem 84 = .ok (.getfield 9, 3) := by decide +kernel
theorem dX1_takeItem_87 : decode cX1_takeItem 87 = .ok (.iconst 0, 1) := by decide +kernel
theorem dX1_takeItem_88 : decode cX1_takeItem 88 = .ok (.iaload, 1) := by decide +kernel
theorem dX1_takeItem_89 : decode cX1_takeItem 89 = .ok (.invokevirtual 60, 3) := by decide +kernel
theorem dX1_takeItem_92 : decode cX1_takeItem 92 = .ok (.ireturn, 1) := by decide +kernel
theorem dX1_takeItem_93 : decode cX1_takeItem 93 = .ok (.aload_n 2, 1) := by decide +kernel
theorem dX1_takeItem_94 : decode cX1_takeItem 94 = .ok (.aload_n 0, 1) := by decide +kernel
theorem dX1_takeItem_95 : decode cX1_takeItem 95 = .ok (.getfield 9, 3) := by decide +kernel
theorem dX1_takeItem_98 : decode cX1_takeItem 98 = .ok (.iconst 0, 1) := by decide +kernel
theorem dX1_takeItem_99 : decode cX1_takeItem 99 = .ok (.iaload, 1) := by decide +kernel
theorem dX1_takeItem_100 : decode cX1_takeItem 100 = .ok (.invokevirtual 64, 3) := by decide +kernel
theorem dX1_takeItem_103 : decode cX1_takeItem 103 = .ok (.ireturn, 1) := by decide +kernel
theorem dX1_numbersBehind_0 : decode cX1_numbersBehind 0 = .ok (.iload_n 0, 1) := by decide +kernel
theorem dX1_numbersBehind_1 : decode cX1_numbersBehind 1 = .ok (.tableswitch 41 98 102 #[35, 39, 39, 41, 37], 35) := by decide +kernel
theorem dX1_numbersBehind_36 : decode cX1_numbersBehind 36 = .ok (.iconst 2, 1) := by decide +kernel
theorem dX1_numbersBehind_37 : decode cX1_numbersBehind 37 = .ok (.ireturn, 1) := by decide +kernel
theorem dX1_numbersBehind_38 : decode cX1_numbersBehind 38 = .ok (.iconst 4, 1) := by decide +kernel
theorem dX1_numbersBehind_39 : decode cX1_numbersBehind 39 = .ok (.ireturn, 1) := by decide +kernel
theorem dX1_numbersBehind_40 : decode cX1_numbersBehind 40 = .ok (.iconst 1, 1) := by decide +kernel
theorem dX1_numbersBehind_41 : decode cX1_numbersBehind 41 = .ok (.ireturn, 1) := by decide +kernel
theorem dX1_numbersBehind_42 : decode cX1_numbersBehind 42 = .ok (.iconst 0, 1) := by decide +kernel
theorem dX1_numbersBehind_43 : decode cX1_numbersBehind 43 = .ok (.ireturn, 1) := by decide +kernel
theorem dX1_figure_0 : decode cX1_figure 0 = .ok (.iload_n 0, 1) := by decide +kernel
theorem dX1_figure_1 : decode cX1_figure 1 = .ok (.bipush 48, 2) := by decide +kernel
theorem dX1_figure_3 : decode cX1_figure 3 = .ok (.if_icmp .lt 16, 3) := by decide +kernel
theorem dX1_figure_6 : decode cX1_figure 6 = .ok (.iload_n 0, 1) := by decide +kernel
theorem dX1_figure_7 : decode cX1_figure 7 = .ok (.bipush 57, 2) := by decide +kernel
theorem dX1_figure_9 : decode cX1_figure 9 = .ok (.if_icmp .gt 10, 3) := by decide +kernel
theorem dX1_figure_12 : decode cX1_figure 12 = .ok (.iload_n 0, 1) := by decide +kernel
theorem dX1_figure_13 : decode cX1_figure 13 = .ok (.bipush 48, 2) := by decide +kernel
theorem dX1_figure_15 : decode cX1_figure 15 = .ok (.isub, 1) := by decide +kernel
theorem dX1_figure_16 : decode cX1_figure 16 = .ok (.goto 4, 3) := by decide +kernel
theorem dX1_figure_19 : decode cX1_figure 19 = .ok (.iconst (-1), 1) := by decide +kernel
theorem dX1_figure_20 : decode cX1_figure 20 = .ok (.ireturn, 1) := by decide +kernel
theorem dX2_init_0 : decode cX2_init 0 = .ok (.aload_n 0, 1) := by decide +kernel
theorem dX2_init_1 : decode cX2_init 1 = .ok (.invokespecial 5, 3) := by decide +kernel
theorem dX2_init_4 : decode cX2_init 4 = .ok (.aload_n 0, 1) := by decide +kernel
theorem dX2_init_5 : decode cX2_init 5 = .ok (.new 11, 3) := by decide +kernel
theorem dX2_init_8 : decode cX2_init 8 = .ok (.dup, 1) := by decide +kernel
theorem dX2_init_9 : decode cX2_init 9 = .ok (.invokespecial 13, 3) := by decide +kernel
theorem dX2_init_12 : decode cX2_init 12 = .ok (.putfield 14, 3) := by decide +kernel
theorem dX2_init_15 : decode cX2_init 15 = .ok (.aload_n 0, 1) := by decide +kernel
theorem dX2_init_16 : decode cX2_init 16 = .ok (.bipush 6, 2) := by decide +kernel
theorem dX2_init_18 : decode cX2_init 18 = .ok (.anewarray 18, 3) := by decide +kernel
theorem dX2_init_21 : decode cX2_init 21 = .ok (.putfield 20, 3) := by decide +kernel
theorem dX2_init_24 : decode cX2_init 24 = .ok (.iconst 0, 1) := by decide +kernel
theorem dX2_init_25 : decode cX2_init 25 = .ok (.istore_n 1, 1) := by decide +kernel
theorem dX2_init_26 : decode cX2_init 26 = .ok (.iload_n 1, 1) := by decide +kernel
theorem dX2_init_27 : decode cX2_init 27 = .ok (.iconst 5, 1) := by decide +kernel
theorem dX2_init_28 : decode cX2_init 28 = .ok (.if_icmp .gt 22, 3) := by decide +kernel
theorem dX2_init_31 : decode cX2_init 31 = .ok (.aload_n 0, 1) := by decide +kernel
theorem dX2_init_32 : decode cX2_init 32 = .ok (.getfield 20, 3) := by decide +kernel
theorem dX2_init_35 : decode cX2_init 35 = .ok (.iload_n 1, 1) := by decide +kernel
theorem dX2_init_36 : decode cX2_init 36 = .ok (.new 18, 3) := by decide +kernel
theorem dX2_init_39 : decode cX2_init 39 = .ok (.dup, 1) := by decide +kernel
theorem dX2_init_40 : decode cX2_init 40 = .ok (.invokespecial 24, 3) := by decide +kernel
theorem dX2_init_43 : decode cX2_init 43 = .ok (.aastore, 1) := by decide +kernel
theorem dX2_init_44 : decode cX2_init 44 = .ok (.iinc 1 1, 3) := by decide +kernel
theorem dX2_init_47 : decode cX2_init 47 = .ok (.goto (-21), 3) := by decide +kernel
theorem dX2_init_50 : decode cX2_init 50 = .ok (.return_, 1) := by decide +kernel
theorem dX2_findFirst_0 : decode cX2_findFirst 0 = .ok (.aload_n 0, 1) := by decide +kernel
theorem dX2_findFirst_1 : decode cX2_findFirst 1 = .ok (.iload_n 3, 1) := by decide +kernel
theorem dX2_findFirst_2 : decode cX2_findFirst 2 = .ok (.iconst 5, 1) := by decide +kernel
theorem dX2_findFirst_3 : decode cX2_findFirst 3 = .ok (.invokestatic 25, 3) := by decide +kernel
theorem dX2_findFirst_6 : decode cX2_findFirst 6 = .ok (.putfield 31, 3) := by decide +kernel
theorem dX2_findFirst_9 : decode cX2_findFirst 9 = .ok (.aload_n 0, 1) := by decide +kernel
theorem dX2_findFirst_10 : decode cX2_findFirst 10 = .ok (.ldc 35, 2) := by decide +kernel
theorem dX2_findFirst_12 : decode cX2_findFirst 12 = .ok (.putfield 36, 3) := by decide +kernel
theorem dX2_findFirst_15 : decode cX2_findFirst 15 = .ok (.aload_n 0, 1) := by decide +kernel
theorem dX2_findFirst_16 : decode cX2_findFirst 16 = .ok (.aload_n 1, 1) := by decide +kernel
theorem dX2_findFirst_17 : decode cX2_findFirst 17 = .ok (.aload_n 2, 1) := by decide +kernel
theorem dX2_findFirst_18 : decode cX2_findFirst 18 = .ok (.invokevirtual 39, 3) := by decide +kernel
theorem dX2_findFirst_21 : decode cX2_findFirst 21 = .ok (.ifCond .eq 5, 3) := by decide +kernel
theorem dX2_findFirst_24 : decode cX2_findFirst 24 = .ok (.iconst 0, 1) := by decide +kernel
theorem dX2_findFirst_25 : decode cX2_findFirst 25 = .ok (.ireturn, 1) := by decide +kernel
theorem dX2_findFirst_26 : decode cX2_findFirst 26 = .ok (.aload_n 0, 1) := by decide +kernel
theorem dX2_findFirst_27 : decode cX2_findFirst 27 = .ok (.getfield 20, 3) := by decide +kernel
theorem dX2_findFirst_30 : decode cX2_findFirst 30 = .ok (.iconst 0, 1) := by decide +kernel
theorem dX2_findFirst_31 : decode cX2_findFirst 31 = .ok (.aaload, 1) := by decide +kernel
theorem dX2_findFirst_32 : decode cX2_findFirst 32 = .ok (.aload_n 2, 1) := by decide +kernel
theorem dX2_findFirst_33 : decode cX2_findFirst 33 = .ok (.invokevirtual 43, 3) := by decide +kernel
theorem dX2_findFirst_36 : decode cX2_findFirst 36 = .ok (.aload_n 0, 1) := by decide +kernel
theorem dX2_findFirst_37 : decode cX2_findFirst 37 = .ok (.aload_n 1, 1) := by decide +kernel
theorem dX2_findFirst_38 : decode cX2_findFirst 38 = .ok (.iconst 0, 1) := by decide +kernel
theorem dX2_findFirst_39 : decode cX2_findFirst 39 = .ok (.aload_n 2, 1) := by decide +kernel
theorem dX2_findFirst_40 : decode cX2_findFirst 40 = .ok (.getfield 47, 3) := by decide +kernel
theorem dX2_findFirst_43 : decode cX2_findFirst 43 = .ok (.iconst 0, 1) := by decide +kernel
theorem dX2_findFirst_44 : decode cX2_findFirst 44 = .ok (.invokevirtual 50, 3) := by decide +kernel
theorem dX2_findFirst_47 : decode cX2_findFirst 47 = .ok (.aload_n 0, 1) := by decide +kernel
theorem dX2_findFirst_48 : decode cX2_findFirst 48 = .ok (.getfield 36, 3) := by decide +kernel
theorem dX2_findFirst_51 : decode cX2_findFirst 51 = .ok (.ldc 35, 2) := by decide +kernel
theorem dX2_findFirst_53 : decode cX2_findFirst 53 = .ok (.if_icmp .eq 7, 3) := by decide +kernel
theorem dX2_findFirst_56 : decode cX2_findFirst 56 = .ok (.iconst 1, 1) := by decide +kernel
theorem dX2_findFirst_57 : decode cX2_findFirst 57 = .ok (.goto 4, 3) := by decide +kernel
theorem dX2_findFirst_60 : decode cX2_findFirst 60 = .ok (.iconst 0, 1) := by decide +kernel
theorem dX2_findFirst_61 : decode cX2_findFirst 61 = .ok (.ireturn, 1) := by decide +kernel
theorem dX2_isHopeless_0 : decode cX2_isHopeless 0 = .ok (.aload_n 0, 1) := by decide +kernel
theorem dX2_isHopeless_1 : decode cX2_isHopeless 1 = .ok (.getfield 20, 3) := by decide +kernel
theorem dX2_isHopeless_4 : decode cX2_isHopeless 4 = .ok (.iconst 0, 1) := by decide +kernel
theorem dX2_isHopeless_5 : decode cX2_isHopeless 5 = .ok (.aaload, 1) := by decide +kernel
theorem dX2_isHopeless_6 : decode cX2_isHopeless 6 = .ok (.astore_n 3, 1) := by decide +kernel
theorem dX2_isHopeless_7 : decode cX2_isHopeless 7 = .ok (.aload_n 3, 1) := by decide +kernel
theorem dX2_isHopeless_8 : decode cX2_isHopeless 8 = .ok (.aload_n 2, 1) := by decide +kernel
theorem dX2_isHopeless_9 : decode cX2_isHopeless 9 = .ok (.invokevirtual 43, 3) := by decide +kernel
theorem dX2_isHopeless_12 : decode cX2_isHopeless 12 = .ok (.iconst 0, 1) := by decide +kernel
theorem dX2_isHopeless_13 : decode cX2_isHopeless 13 = .ok (.istore 4, 2) := by decide +kernel
theorem dX2_isHopeless_15 : decode cX2_isHopeless 15 = .ok (.iload 4, 2) := by decide +kernel
theorem dX2_isHopeless_17 : decode cX2_isHopeless 17 = .ok (.aload_n 0, 1) := by decide +kernel
theorem dX2_isHopeless_18 : decode cX2_isHopeless 18 = .ok (.getfield 31, 3) := by decide +kernel
theorem dX2_isHopeless_21 : decode cX2_isHopeless 21 = .ok (.if_icmp .ge 31, 3) := by decide +kernel
theorem dX2_isHopeless_24 : decode cX2_isHopeless 24 = .ok (.aload_n 3, 1) := by decide +kernel
theorem dX2_isHopeless_25 : decode cX2_isHopeless 25 = .ok (.aload_n 2, 1) := by decide +kernel
theorem dX2_isHopeless_26 : decode cX2_isHopeless 26 = .ok (.getfield 47, 3) := by decide +kernel
theorem dX2_isHopeless_29 : decode cX2_isHopeless 29 = .ok (.putfield 47, 3) := by decide +kernel
theorem dX2_isHopeless_32 : decode cX2_isHopeless 32 = .ok (.aload_n 0, 1) := by decide +kernel
theorem dX2_isHopeless_33 : decode cX2_isHopeless 33 = .ok (.getfield 14, 3) := by decide +kernel
theorem dX2_isHopeless_36 : decode cX2_isHopeless 36 = .ok (.aload_n 1, 1) := by decide +kernel
theorem dX2_isHopeless_37 : decode cX2_isHopeless 37 = .ok (.aload_n 3, 1) := by decide +kernel
theorem dX2_isHopeless_38 : decode cX2_isHopeless 38 = .ok (.invokevirtual 54, 3) := by decide +kernel
theorem dX2_isHopeless_41 : decode cX2_isHopeless 41 = .ok (.ifCond .eq 5, 3) := by decide +kernel
theorem dX2_isHopeless_44 : decode cX2_isHopeless 44 = .ok (.iconst 1, 1) := by decide +kernel
theorem dX2_isHopeless_45 : decode cX2_isHopeless 45 = .ok (.ireturn, 1) := by decide +kernel
theorem dX2_isHopeless_46 : decode cX2_isHopeless 46 = .ok (.iinc 4 1, 3) := by decide +kernel
theorem dX2_isHopeless_49 : decode cX2_isHopeless 49 = .ok (.goto (-34), 3) := by decide +kernel
theorem dX2_isHopeless_52 : decode cX2_isHopeless 52 = .ok (.iconst 0, 1) := by decide +kernel
theorem dX2_isHopeless_53 : decode cX2_isHopeless 53 = .ok (.ireturn, 1) := by decide +kernel
theorem dX2_hourOf_0 : decode cX2_hourOf 0 = .ok (.aload_n 0, 1) := by decide +kernel
theorem dX2_hourOf_1 : decode cX2_hourOf 1 = .ok (.getfield 36, 3) := by decide +kernel
theorem dX2_hourOf_4 : decode cX2_hourOf 4 = .ok (.iload_n 1, 1) := by decide +kernel
theorem dX2_hourOf_5 : decode cX2_hourOf 5 = .ok (.invokestatic 58, 3) := by decide +kernel
theorem dX2_hourOf_8 : decode cX2_hourOf 8 = .ok (.ishr, 1) := by decide +kernel
theorem dX2_hourOf_9 : decode cX2_hourOf 9 = .ok (.bipush 7, 2) := by decide +kernel
theorem dX2_hourOf_11 : decode cX2_hourOf 11 = .ok (.iand, 1) := by decide +kernel
theorem dX2_hourOf_12 : decode cX2_hourOf 12 = .ok (.ireturn, 1) := by decide +kernel
theorem dX2_tryHour_0 : decode cX2_tryHour 0 = .ok (.iload 4, 2) := by decide +kernel
theorem dX2_tryHour_2 : decode cX2_tryHour 2 = .ok (.aload_n 0, 1) := by decide +kernel
theorem dX2_tryHour_3 : decode cX2_tryHour 3 = .ok (.getfield 36, 3) := by decide +kernel
theorem dX2_tryHour_6 : decode cX2_tryHour 6 = .ok (.if_icmp .lt 4, 3) := by decide +kernel
theorem dX2_tryHour_9 : decode cX2_tryHour 9 = .ok (.return_, 1) := by decide +kernel
theorem dX2_tryHour_10 : decode cX2_tryHour 10 = .ok (.iload_n 2, 1) := by decide +kernel
theorem dX2_tryHour_11 : decode cX2_tryHour 11 = .ok (.aload_n 0, 1) := by decide +kernel
theorem dX2_tryHour_12 : decode cX2_tryHour 12 = .ok (.getfield 31, 3) := by decide +kernel
theorem dX2_tryHour_15 : decode cX2_tryHour 15 = .ok (.if_icmp .ge 8, 3) := by decide +kernel
theorem dX2_tryHour_18 : decode cX2_tryHour 18 = .ok (.iload_n 2, 1) := by decide +kernel
theorem dX2_tryHour_19 : decode cX2_tryHour 19 = .ok (.iconst 5, 1) := by decide +kernel
theorem dX2_tryHour_20 : decode cX2_tryHour 20 = .ok (.if_icmp .lt 10, 3) := by decide +kernel
theorem dX2_tryHour_23 : decode cX2_tryHour 23 = .ok (.aload_n 0, 1) := by decide +kernel
theorem dX2_tryHour_24 : decode cX2_tryHour 24 = .ok (.iload 4, 2) := by decide +kernel
theorem dX2_tryHour_26 : decode cX2_tryHour 26 = .ok (.putfield 36, 3) := by decide +kernel
theorem dX2_tryHour_29 : decode cX2_tryHour 29 = .ok (.return_, 1) := by decide +kernel
theorem dX2_tryHour_30 : decode cX2_tryHour 30 = .ok (.aload_n 0, 1) := by decide +kernel
theorem dX2_tryHour_31 : decode cX2_tryHour 31 = .ok (.getfield 20, 3) := by decide +kernel
theorem dX2_tryHour_34 : decode cX2_tryHour 34 = .ok (.iload_n 2, 1) := by decide +kernel
theorem dX2_tryHour_35 : decode cX2_tryHour 35 = .ok (.iconst 1, 1) := by decide +kernel
theorem dX2_tryHour_36 : decode cX2_tryHour 36 = .ok (.iadd, 1) := by decide +kernel
theorem dX2_tryHour_37 : decode cX2_tryHour 37 = .ok (.aaload, 1) := by decide +kernel
theorem dX2_tryHour_38 : decode cX2_tryHour 38 = .ok (.astore 5, 2) := by decide +kernel
theorem dX2_tryHour_40 : decode cX2_tryHour 40 = .ok (.iload_n 2, 1) := by decide +kernel
theorem dX2_tryHour_41 : decode cX2_tryHour 41 = .ok (.aload_n 0, 1) := by decide +kernel
theorem dX2_tryHour_42 : decode cX2_tryHour 42 = .ok (.getfield 31, 3) := by decide +kernel
theorem dX2_tryHour_45 : decode cX2_tryHour 45 = .ok (.iconst 1, 1) := by decide +kernel
theorem dX2_tryHour_46 : decode cX2_tryHour 46 = .ok (.isub, 1) := by decide +kernel
theorem dX2_tryHour_47 : decode cX2_tryHour 47 = .ok (.if_icmp .ne 7, 3) := by decide +kernel
theorem dX2_tryHour_50 : decode cX2_tryHour 50 = .ok (.iload_n 3, 1) := by decide +kernel
theorem dX2_tryHour_51 : decode cX2_tryHour 51 = .ok (.goto 4, 3) := by decide +kernel
theorem dX2_tryHour_54 : decode cX2_tryHour 54 = .ok (.iconst 0, 1) := by decide +kernel
theorem dX2_tryHour_55 : decode cX2_tryHour 55 = .ok (.istore 6, 2) := by decide +kernel
theorem dX2_tryHour_57 : decode cX2_tryHour 57 = .ok (.iload_n 3, 1) := by decide +kernel
theorem dX2_tryHour_58 : decode cX2_tryHour 58 = .ok (.istore 7, 2) := by decide +kernel
theorem dX2_tryHour_60 : decode cX2_tryHour 60 = .ok (.iload 7, 2) := by decide +kernel
theorem dX2_tryHour_62 : decode cX2_tryHour 62 = .ok (.iload 6, 2) := by decide +kernel
theorem dX2_tryHour_64 : decode cX2_tryHour 64 = .ok (.if_icmp .lt 109, 3) := by decide +kernel
theorem dX2_tryHour_67 : decode cX2_tryHour 67 = .ok (.iload 7, 2) := by decide +kernel
theorem dX2_tryHour_69 : decode cX2_tryHour 69 = .ok (.iload_n 3, 1) := by decide +kernel
theorem dX2_tryHour_70 : decode cX2_tryHour 70 = .ok (.invokestatic 62, 3) := by decide +kernel
theorem dX2_tryHour_73 : decode cX2_tryHour 73 = .ok (.ifCond .ne 6, 3) := by decide +kernel
theorem dX2_tryHour_76 : decode cX2_tryHour 76 = .ok (.goto 91, 3) := by decide +kernel
theorem dX2_tryHour_79 : decode cX2_tryHour 79 = .ok (.aload 5, 2) := by decide +kernel
theorem dX2_tryHour_81 : decode cX2_tryHour 81 = .ok (.aload_n 0, 1) := by decide +kernel
theorem dX2_tryHour_82 : decode cX2_tryHour 82 = .ok (.getfield 20, 3) := by decide +kernel
theorem dX2_tryHour_85 : decode cX2_tryHour 85 = .ok (.iload_n 2, 1) := by decide +kernel
theorem dX2_tryHour_86 : decode cX2_tryHour 86 = .ok (.aaload, 1) := by decide +kernel
theorem dX2_tryHour_87 : decode cX2_tryHour 87 = .ok (.invokevirtual 43, 3) := by decide +kernel
theorem dX2_tryHour_90 : decode cX2_tryHour 90 = .ok (.aload 5, 2) := by decide +kernel
theorem dX2_tryHour_92 : decode cX2_tryHour 92 = .ok (.dup, 1) := by decide +kernel
theorem dX2_tryHour_93 : decode cX2_tryHour 93 = .ok (.getfield 47, 3) := by decide +kernel
theorem dX2_tryHour_96 : decode cX2_tryHour 96 = .ok (.iload 7, 2) := by decide +kernel
theorem dX2_tryHour_98 : decode cX2_tryHour 98 = .ok (.iconst (-1), 1) := by decide +kernel
theorem dX2_tryHour_99 : decode cX2_tryHour 99 = .ok (.ixor, 1) := by decide +kernel
theorem dX2_tryHour_100 : decode cX2_tryHour 100 = .ok (.iand, 1) := by decide +kernel
theorem dX2_tryHour_101 : decode cX2_tryHour 101 = .ok (.putfield 47, 3) := by decide +kernel
theorem dX2_tryHour_104 : decode cX2_tryHour 104 = .ok (.aload_n 0, 1) := by decide +kernel
theorem dX2_tryHour_105 : decode cX2_tryHour 105 = .ok (.getfield 14, 3) := by decide +kernel
theorem dX2_tryHour_108 : decode cX2_tryHour 108 = .ok (.aload_n 1, 1) := by decide +kernel
theorem dX2_tryHour_109 : decode cX2_tryHour 109 = .ok (.aload 5, 2) := by decide +kernel
theorem dX2_tryHour_111 : decode cX2_tryHour 111 = .ok (.invokevirtual 54, 3) := by decide +kernel
theorem dX2_tryHour_114 : decode cX2_tryHour 114 = .ok (.ifCond .ne 7, 3) := by decide +kernel
theorem dX2_tryHour_117 : decode cX2_tryHour 117 = .ok (.iconst 1, 1) := by decide +kernel
theorem dX2_tryHour_118 : decode cX2_tryHour 118 = .ok (.goto 4, 3) := by decide +kernel
theorem dX2_tryHour_121 : decode cX2_tryHour 121 = .ok (.iconst 0, 1) := by decide +kernel
theorem dX2_tryHour_122 : decode cX2_tryHour 122 = .ok (.istore 8, 2) := by decide +kernel
theorem dX2_tryHour_124 : decode cX2_tryHour 124 = .ok (.aload 5, 2) := by decide +kernel
theorem dX2_tryHour_126 : decode cX2_tryHour 126 = .ok (.dup, 1) := by decide +kernel
theorem dX2_tryHour_127 : decode cX2_tryHour 127 = .ok (.getfield 47, 3) := by decide +kernel
theorem dX2_tryHour_130 : decode cX2_tryHour 130 = .ok (.iload 7, 2) := by decide +kernel
theorem dX2_tryHour_132 : decode cX2_tryHour 132 = .ok (.ior, 1) := by decide +kernel
theorem dX2_tryHour_133 : decode cX2_tryHour 133 = .ok (.putfield 47, 3) := by decide +kernel
theorem dX2_tryHour_136 : decode cX2_tryHour 136 = .ok (.iload 8, 2) := by decide +kernel
theorem dX2_tryHour_138 : decode cX2_tryHour 138 = .ok (.ifCond .eq 29, 3) := by decide +kernel
theorem dX2_tryHour_141 : decode cX2_tryHour 141 = .ok (.iload_n 3, 1) := by decide +kernel
theorem dX2_tryHour_142 : decode cX2_tryHour 142 = .ok (.iload 7, 2) := by decide +kernel
theorem dX2_tryHour_144 : decode cX2_tryHour 144 = .ok (.iconst (-1), 1) := by decide +kernel
theorem dX2_tryHour_145 : decode cX2_tryHour 145 = .ok (.ixor, 1) := by decide +kernel
theorem dX2_tryHour_146 : decode cX2_tryHour 146 = .ok (.iand, 1) := by decide +kernel
theorem dX2_tryHour_147 : decode cX2_tryHour 147 = .ok (.istore 9, 2) := by decide +kernel
theorem dX2_tryHour_149 : decode cX2_tryHour 149 = .ok (.aload_n 0, 1) := by decide +kernel
theorem dX2_tryHour_150 : decode cX2_tryHour 150 = .ok (.aload_n 1, 1) := by decide +kernel
theorem dX2_tryHour_151 : decode cX2_tryHour 151 = .ok (.iload_n 2, 1) := by decide +kernel
theorem dX2_tryHour_152 : decode cX2_tryHour 152 = .ok (.iconst 1, 1) := by decide +kernel
theorem dX2_tryHour_153 : decode cX2_tryHour 153 = .ok (.iadd, 1) := by decide +kernel
theorem dX2_tryHour_154 : decode cX2_tryHour 154 = .ok (.iload 9, 2) := by decide +kernel
theorem dX2_tryHour_156 : decode cX2_tryHour 156 = .ok (.iload 4, 2) := by decide +kernel
theorem dX2_tryHour_158 : decode cX2_tryHour 158 = .ok (.iload 9, 2) := by decide +kernel
theorem dX2_tryHour_160 : decode cX2_tryHour 160 = .ok (.invokestatic 66, 3) := by decide +kernel
theorem dX2_tryHour_163 : decode cX2_tryHour 163 = .ok (.iadd, 1) := by decide +kernel
theorem dX2_tryHour_164 : decode cX2_tryHour 164 = .ok (.invokevirtual 50, 3) := by decide +kernel
theorem dX2_tryHour_167 : decode cX2_tryHour 167 = .ok (.iinc 7 (-1), 3) := by decide +kernel
theorem dX2_tryHour_170 : decode cX2_tryHour 170 = .ok (.goto (-110), 3) := by decide +kernel
theorem dX2_tryHour_173 : decode cX2_tryHour 173 = .ok (.return_, 1) := by decide +kernel
theorem dX2_oneHourMore_0 : decode cX2_oneHourMore 0 = .ok (.iconst 0, 1) := by decide +kernel
theorem dX2_oneHourMore_1 : decode cX2_oneHourMore 1 = .ok (.istore_n 1, 1) := by decide +kernel
theorem dX2_oneHourMore_2 : decode cX2_oneHourMore 2 = .ok (.iconst 0, 1) := by decide +kernel
theorem dX2_oneHourMore_3 : decode cX2_oneHourMore 3 = .ok (.istore_n 2, 1) := by decide +kernel
theorem dX2_oneHourMore_4 : decode cX2_oneHourMore 4 = .ok (.iload_n 2, 1) := by decide +kernel
theorem dX2_oneHourMore_5 : decode cX2_oneHourMore 5 = .ok (.bipush 6, 2) := by decide +kernel
theorem dX2_oneHourMore_7 : decode cX2_oneHourMore 7 = .ok (.if_icmp .ge 30, 3) := by decide +kernel
theorem dX2_oneHourMore_10 : decode cX2_oneHourMore 10 = .ok (.iload_n 1, 1) := by decide +kernel
theorem dX2_oneHourMore_11 : decode cX2_oneHourMore 11 = .ok (.iload_n 0, 1) := by decide +kernel
theorem dX2_oneHourMore_12 : decode cX2_oneHourMore 12 = .ok (.iload_n 2, 1) := by decide +kernel
theorem dX2_oneHourMore_13 : decode cX2_oneHourMore 13 = .ok (.invokestatic 69, 3) := by decide +kernel
theorem dX2_oneHourMore_16 : decode cX2_oneHourMore 16 = .ok (.ifCond .eq 12, 3) := by decide +kernel
theorem dX2_oneHourMore_19 : decode cX2_oneHourMore 19 = .ok (.iconst 1, 1) := by decide +kernel
theorem dX2_oneHourMore_20 : decode cX2_oneHourMore 20 = .ok (.iload_n 2, 1) := by decide +kernel
theorem dX2_oneHourMore_21 : decode cX2_oneHourMore 21 = .ok (.invokestatic 58, 3) := by decide +kernel
theorem dX2_oneHourMore_24 : decode cX2_oneHourMore 24 = .ok (.ishl, 1) := by decide +kernel
theorem dX2_oneHourMore_25 : decode cX2_oneHourMore 25 = .ok (.goto 4, 3) := by decide +kernel
theorem dX2_oneHourMore_28 : decode cX2_oneHourMore 28 = .ok (.iconst 0, 1) := by decide +kernel
theorem dX2_oneHourMore_29 : decode cX2_oneHourMore 29 = .ok (.iadd, 1) := by decide +kernel
theorem dX2_oneHourMore_30 : decode cX2_oneHourMore 30 = .ok (.istore_n 1, 1) := by decide +kernel
theorem dX2_oneHourMore_31 : decode cX2_oneHourMore 31 = .ok (.iinc 2 1, 3) := by decide +kernel
theorem dX2_oneHourMore_34 : decode cX2_oneHourMore 34 = .ok (.goto (-30), 3) := by decide +kernel
theorem dX2_oneHourMore_37 : decode cX2_oneHourMore 37 = .ok (.iload_n 1, 1) := by decide +kernel
theorem dX2_oneHourMore_38 : decode cX2_oneHourMore 38 = .ok (.ireturn, 1) := by decide +kernel
theorem dX2_figurePlace_0 : decode cX2_figurePlace 0 = .ok (.iconst 3, 1) := by decide +kernel
theorem dX2_figurePlace_1 : decode cX2_figurePlace 1 = .ok (.iconst 5, 1) := by decide +kernel
theorem dX2_figurePlace_2 : decode cX2_figurePlace 2 = .ok (.iload_n 0, 1) := by decide +kernel
theorem dX2_figurePlace_3 : decode cX2_figurePlace 3 = .ok (.isub, 1) := by decide +kernel
theorem dX2_figurePlace_4 : decode cX2_figurePlace 4 = .ok (.imul, 1) := by decide +kernel
theorem dX2_figurePlace_5 : decode cX2_figurePlace 5 = .ok (.ireturn, 1) := by decide +kernel
theorem dX3_init_0 : decode cX3_init 0 = .ok (.aload_n 0, 1) := by decide +kernel
theorem dX3_init_1 : decode cX3_init 1 = .ok (.invokespecial 3, 3) := by decide +kernel
theorem dX3_init_4 : decode cX3_init 4 = .ok (.aload_n 0, 1) := by decide +kernel
theorem dX3_init_5 : decode cX3_init 5 = .ok (.bipush 6, 2) := by decide +kernel
theorem dX3_init_7 : decode cX3_init 7 = .ok (.newarray .int, 2) := by decide +kernel
theorem dX3_init_9 : decode cX3_init 9 = .ok (.putfield 9, 3) := by decide +kernel
theorem dX3_init_12 : decode cX3_init 12 = .ok (.aload_n 0, 1) := by decide +kernel
theorem dX3_init_13 : decode cX3_init 13 = .ok (.bipush 6, 2) := by decide +kernel
theorem dX3_init_15 : decode cX3_init 15 = .ok (.newarray .int, 2) := by decide +kernel
theorem dX3_init_17 : decode cX3_init 17 = .ok (.putfield 15, 3) := by decide +kernel
theorem dX3_init_20 : decode cX3_init 20 = .ok (.aload_n 0, 1) := by decide +kernel
theorem dX3_init_21 : decode cX3_init 21 = .ok (.bipush 8, 2) := by decide +kernel
theorem dX3_init_23 : decode cX3_init 23 = .ok (.newarray .int, 2) := by decide +kernel
theorem dX3_init_25 : decode cX3_init 25 = .ok (.putfield 18, 3) := by decide +kernel
theorem dX3_init_28 : decode cX3_init 28 = .ok (.return_, 1) := by decide +kernel
theorem dX3_begin_0 : decode cX3_begin 0 = .ok (.aload_n 0, 1) := by decide +kernel
theorem dX3_begin_1 : decode cX3_begin 1 = .ok (.iconst 0, 1) := by decide +kernel
theorem dX3_begin_2 : decode cX3_begin 2 = .ok (.putfield 21, 3) := by decide +kernel
theorem dX3_begin_5 : decode cX3_begin 5 = .ok (.aload_n 0, 1) := by decide +kernel
theorem dX3_begin_6 : decode cX3_begin 6 = .ok (.aload_n 1, 1) := by decide +kernel
theorem dX3_begin_7 : decode cX3_begin 7 = .ok (.invokevirtual 25, 3) := by decide +kernel
theorem dX3_begin_10 : decode cX3_begin 10 = .ok (.aload_n 1, 1) := by decide +kernel
theorem dX3_begin_11 : decode cX3_begin 11 = .ok (.getfield 31, 3) := by decide +kernel
theorem dX3_begin_14 : decode cX3_begin 14 = .ok (.iconst (-1), 1) := by decide +kernel
theorem dX3_begin_15 : decode cX3_begin 15 = .ok (.ixor, 1) := by decide +kernel
theorem dX3_begin_16 : decode cX3_begin 16 = .ok (.iand, 1) := by decide +kernel
theorem dX3_begin_17 : decode cX3_begin 17 = .ok (.putfield 34, 3) := by decide +kernel
theorem dX3_begin_20 : decode cX3_begin 20 = .ok (.aload_n 0, 1) := by decide +kernel
theorem dX3_begin_21 : decode cX3_begin 21 = .ok (.iconst 0, 1) := by decide +kernel
theorem dX3_begin_22 : decode cX3_begin 22 = .ok (.putfield 37, 3) := by decide +kernel
theorem dX3_begin_25 : decode cX3_begin 25 = .ok (.iconst 0, 1) := by decide +kernel
theorem dX3_begin_26 : decode cX3_begin 26 = .ok (.istore_n 2, 1) := by decide +kernel
theorem dX3_begin_27 : decode cX3_begin 27 = .ok (.iload_n 2, 1) := by decide +kernel
theorem dX3_begin_28 : decode cX3_begin 28 = .ok (.bipush 6, 2) := by decide +kernel
theorem dX3_begin_30 : decode cX3_begin 30 = .ok (.if_icmp .ge 28, 3) := by decide +kernel
theorem dX3_begin_33 : decode cX3_begin 33 = .ok (.aload_n 0, 1) := by decide +kernel
theorem dX3_begin_34 : decode cX3_begin 34 = .ok (.getfield 9, 3) := by decide +kernel
theorem dX3_begin_37 : decode cX3_begin 37 = .ok (.iload_n 2, 1) := by decide +kernel
theorem dX3_begin_38 : decode cX3_begin 38 = .ok (.aload_n 1, 1) := by decide +kernel
theorem dX3_begin_39 : decode cX3_begin 39 = .ok (.getfield 40, 3) := by decide +kernel
theorem dX3_begin_42 : decode cX3_begin 42 = .ok (.iload_n 2, 1) := by decide +kernel
theorem dX3_begin_43 : decode cX3_begin 43 = .ok (.iaload, 1) := by decide +kernel
theorem dX3_begin_44 : decode cX3_begin 44 = .ok (.iastore, 1) := by decide +kernel
theorem dX3_begin_45 : decode cX3_begin 45 = .ok (.aload_n 0, 1) := by decide +kernel
theorem dX3_begin_46 : decode cX3_begin 46 = .ok (.getfield 15, 3) := by decide +kernel
theorem dX3_begin_49 : decode cX3_begin 49 = .ok (.iload_n 2, 1) := by decide +kernel
theorem dX3_begin_50 : decode cX3_begin 50 = .ok (.iconst 0, 1) := by decide +kernel
theorem dX3_begin_51 : decode cX3_begin 51 = .ok (.iastore, 1) := by decide +kernel
theorem dX3_begin_52 : decode cX3_begin 52 = .ok (.iinc 2 1, 3) := by decide +kernel
theorem dX3_begin_55 : decode cX3_begin 55 = .ok (.goto (-28), 3) := by decide +kernel
theorem dX3_begin_58 : decode cX3_begin 58 = .ok (.iconst 0, 1) := by decide +kernel
theorem dX3_begin_59 : decode cX3_begin 59 = .ok (.istore_n 2, 1) := by decide +kernel
theorem dX3_begin_60 : decode cX3_begin 60 = .ok (.iload_n 2, 1) := by decide +kernel
theorem dX3_begin_61 : decode cX3_begin 61 = .ok (.bipush 8, 2) := by decide +kernel
theorem dX3_begin_63 : decode cX3_begin 63 = .ok (.if_icmp .ge 16, 3) := by decide +kernel
theorem dX3_begin_66 : decode cX3_begin 66 = .ok (.aload_n 0, 1) := by decide +kernel
theorem dX3_begin_67 : decode cX3_begin 67 = .ok (.getfield 18, 3) := by decide +kernel
theorem dX3_begin_70 : decode cX3_begin 70 = .ok (.iload_n 2, 1) := by decide +kernel
theorem dX3_begin_71 : decode cX3_begin 71 = .ok (.iconst 0, 1) := by decide +kernel
theorem dX3_begin_72 : decode cX3_begin 72 = .ok (.iastore, 1) := by decide +kernel
theorem dX3_begin_73 : decode cX3_begin 73 = .ok (.iinc 2 1, 3) := by decide +kernel
theorem dX3_begin_76 : decode cX3_begin 76 = .ok (.goto (-16), 3) := by decide +kernel
theorem dX3_begin_79 : decode cX3_begin 79 = .ok (.return_, 1) := by decide +kernel
theorem dX3_takeFrom_0 : decode cX3_takeFrom 0 = .ok (.aload_n 0, 1) := by decide +kernel
theorem dX3_takeFrom_1 : decode cX3_takeFrom 1 = .ok (.aload_n 1, 1) := by decide +kernel
theorem dX3_takeFrom_2 : decode cX3_takeFrom 2 = .ok (.getfield 21, 3) := by decide +kernel
theorem dX3_takeFrom_5 : decode cX3_takeFrom 5 = .ok (.putfield 21, 3) := by decide +kernel
theorem dX3_takeFrom_8 : decode cX3_takeFrom 8 = .ok (.aload_n 0, 1) := by decide +kernel
theorem dX3_takeFrom_9 : decode cX3_takeFrom 9 = .ok (.aload_n 1, 1) := by decide +kernel
theorem dX3_takeFrom_10 : decode cX3_takeFrom 10 = .ok (.getfield 34, 3) := by decide +kernel
theorem dX3_takeFrom_13 : decode cX3_takeFrom 13 = .ok (.putfield 34, 3) := by decide +kernel
theorem dX3_takeFrom_16 : decode cX3_takeFrom 16 = .ok (.aload_n 0, 1) := by decide +kernel
theorem dX3_takeFrom_17 : decode cX3_takeFrom 17 = .ok (.aload_n 1, 1) := by decide +kernel
theorem dX3_takeFrom_18 : decode cX3_takeFrom 18 = .ok (.getfield 37, 3) := by decide +kernel
theorem dX3_takeFrom_21 : decode cX3_takeFrom 21 = .ok (.putfield 37, 3) := by decide +kernel
theorem dX3_takeFrom_24 : decode cX3_takeFrom 24 = .ok (.aload_n 1, 1) := by decide +kernel
theorem dX3_takeFrom_25 : decode cX3_takeFrom 25 = .ok (.getfield 9, 3) := by decide +kernel
theorem dX3_takeFrom_28 : decode cX3_takeFrom 28 = .ok (.iconst 0, 1) := by decide +kernel
theorem dX3_takeFrom_29 : decode cX3_takeFrom 29 = .ok (.aload_n 0, 1) := by decide +kernel
theorem dX3_takeFrom_30 : decode cX3_takeFrom 30 = .ok (.getfield 9, 3) := by decide +kernel
theorem dX3_takeFrom_33 : decode cX3_takeFrom 33 = .ok (.iconst 0, 1) := by decide +kernel
theorem dX3_takeFrom_34 : decode cX3_takeFrom 34 = .ok (.bipush 6, 2) := by decide +kernel
theorem dX3_takeFrom_36 : decode cX3_takeFrom 36 = .ok (.invokestatic 43, 3) := by decide +kernel
theorem dX3_takeFrom_39 : decode cX3_takeFrom 39 = .ok (.aload_n 1, 1) := by decide +kernel
theorem dX3_takeFrom_40 : decode cX3_takeFrom 40 = .ok (.getfield 15, 3) := by decide +kernel
theorem dX3_takeFrom_43 : decode cX3_takeFrom 43 = .ok (.iconst 0, 1) := by decide +kernel
theorem dX3_takeFrom_44 : decode cX3_takeFrom 44 = .ok (.aload_n 0, 1) := by decide +kernel
theorem dX3_takeFrom_45 : decode cX3_takeFrom 45 = .ok (.getfield 15, 3) := by decide +kernel
theorem dX3_takeFrom_48 : decode cX3_takeFrom 48 = .ok (.iconst 0, 1) := by decide +kernel
theorem dX3_takeFrom_49 : decode cX3_takeFrom 49 = .ok (.bipush 6, 2) := by decide +kernel
theorem dX3_takeFrom_51 : decode cX3_takeFrom 51 = .ok (.invokestatic 43, 3) := by decide +kernel
theorem dX3_takeFrom_54 : decode cX3_takeFrom 54 = .ok (.aload_n 1, 1) := by decide +kernel
theorem dX3_takeFrom_55 : decode cX3_takeFrom 55 = .ok (.getfield 18, 3) := by decide +kernel
theorem dX3_takeFrom_58 : decode cX3_takeFrom 58 = .ok (.iconst 0, 1) := by decide +kernel
theorem dX3_takeFrom_59 : decode cX3_takeFrom 59 = .ok (.aload_n 0, 1) := by decide +kernel
theorem dX3_takeFrom_60 : decode cX3_takeFrom 60 = .ok (.getfield 18, 3) := by decide +kernel
theorem dX3_takeFrom_63 : decode cX3_takeFrom 63 = .ok (.iconst 0, 1) := by decide +kernel
theorem dX3_takeFrom_64 : decode cX3_takeFrom 64 = .ok (.bipush 8, 2) := by decide +kernel
theorem dX3_takeFrom_66 : decode cX3_takeFrom 66 = .ok (.invokestatic 43, 3) := by decide +kernel
theorem dX3_takeFrom_69 : decode cX3_takeFrom 69 = .ok (.return_, 1) := by decide +kernel
theorem dX3_isUp_0 : decode cX3_isUp 0 = .ok (.aload_n 0, 1) := by decide +kernel
theorem dX3_isUp_1 : decode cX3_isUp 1 = .ok (.getfield 34, 3) := by decide +kernel
theorem dX3_isUp_4 : decode cX3_isUp 4 = .ok (.iload_n 1, 1) := by decide +kernel
theorem dX3_isUp_5 : decode cX3_isUp 5 = .ok (.ishr, 1) := by decide +kernel
theorem dX3_isUp_6 : decode cX3_isUp 6 = .ok (.iconst 1, 1) := by decide +kernel
theorem dX3_isUp_7 : decode cX3_isUp 7 = .ok (.iand, 1) := by decide +kernel
theorem dX3_isUp_8 : decode cX3_isUp 8 = .ok (.iconst 1, 1) := by decide +kernel
theorem dX3_isUp_9 : decode cX3_isUp 9 = .ok (.if_icmp .ne 7, 3) := by decide +kernel
theorem dX3_isUp_12 : decode cX3_isUp 12 = .ok (.iconst 1, 1) := by decide +kernel
theorem dX3_isUp_13 : decode cX3_isUp 13 = .ok (.goto 4, 3) := by decide +kernel
theorem dX3_isUp_16 : decode cX3_isUp 16 = .ok (.iconst 0, 1) := by decide +kernel
theorem dX3_isUp_17 : decode cX3_isUp 17 = .ok (.ireturn, 1) := by decide +kernel
theorem dX3_hasFallen_0 : decode cX3_hasFallen 0 = .ok (.aload_n 0, 1) := by decide +kernel
theorem dX3_hasFallen_1 : decode cX3_hasFallen 1 = .ok (.getfield 37, 3) := by decide +kernel
theorem dX3_hasFallen_4 : decode cX3_hasFallen 4 = .ok (.iload_n 1, 1) := by decide +kernel
theorem dX3_hasFallen_5 : decode cX3_hasFallen 5 = .ok (.ishr, 1) := by decide +kernel
theorem dX3_hasFallen_6 : decode cX3_hasFallen 6 = .ok (.iconst 1, 1) := by decide +kernel
theorem dX3_hasFallen_7 : decode cX3_hasFallen 7 = .ok (.iand, 1) := by decide +kernel
theorem dX3_hasFallen_8 : decode cX3_hasFallen 8 = .ok (.iconst 1, 1) := by decide +kernel
theorem dX3_hasFallen_9 : decode cX3_hasFallen 9 = .ok (.if_icmp .ne 7, 3) := by decide +kernel
theorem dX3_hasFallen_12 : decode cX3_hasFallen 12 = .ok (.iconst 1, 1) := by decide +kernel
theorem dX3_hasFallen_13 : decode cX3_hasFallen 13 = .ok (.goto 4, 3) := by decide +kernel
theorem dX3_hasFallen_16 : decode cX3_hasFallen 16 = .ok (.iconst 0, 1) := by decide +kernel
theorem dX3_hasFallen_17 : decode cX3_hasFallen 17 = .ok (.ireturn, 1) := by decide +kernel
theorem dX3_comeDown_0 : decode cX3_comeDown 0 = .ok (.aload_n 0, 1) := by decide +kernel
theorem dX3_comeDown_1 : decode cX3_comeDown 1 = .ok (.dup, 1) := by decide +kernel
theorem dX3_comeDown_2 : decode cX3_comeDown 2 = .ok (.getfield 34, 3) := by decide +kernel
theorem dX3_comeDown_5 : decode cX3_comeDown 5 = .ok (.iconst 1, 1) := by decide +kernel
theorem dX3_comeDown_6 : decode cX3_comeDown 6 = .ok (.iload_n 1, 1) := by decide +kernel
theorem dX3_comeDown_7 : decode cX3_comeDown 7 = .ok (.ishl, 1) := by decide +kernel
theorem dX3_comeDown_8 : decode cX3_comeDown 8 = .ok (.iconst (-1), 1) := by decide +kernel
theorem dX3_comeDown_9 : decode cX3_comeDown 9 = .ok (.ixor, 1) := by decide +kernel
theorem dX3_comeDown_10 : decode cX3_comeDown 10 = .ok (.iand, 1) := by decide +kernel
theorem dX3_comeDown_11 : decode cX3_comeDown 11 = .ok (.putfield 34, 3) := by decide +kernel
theorem dX3_comeDown_14 : decode cX3_comeDown 14 = .ok (.return_, 1) := by decide +kernel
theorem dX3_goUp_0 : decode cX3_goUp 0 = .ok (.aload_n 0, 1) := by decide +kernel
theorem dX3_goUp_1 : decode cX3_goUp 1 = .ok (.dup, 1) := by decide +kernel
theorem dX3_goUp_2 : decode cX3_goUp 2 = .ok (.getfield 34, 3) := by decide +kernel
theorem dX3_goUp_5 : decode cX3_goUp 5 = .ok (.iconst 1, 1) := by decide +kernel
theorem dX3_goUp_6 : decode cX3_goUp 6 = .ok (.iload_n 1, 1) := by decide +kernel
theorem dX3_goUp_7 : decode cX3_goUp 7 = .ok (.ishl, 1) := by decide +kernel
theorem dX3_goUp_8 : decode cX3_goUp 8 = .ok (.ior, 1) := by decide +kernel
theorem dX3_goUp_9 : decode cX3_goUp 9 = .ok (.putfield 34, 3) := by decide +kernel
theorem dX3_goUp_12 : decode cX3_goUp 12 = .ok (.return_, 1) := by decide +kernel
theorem dX3_canComeDown_0 : decode cX3_canComeDown 0 = .ok (.aload_n 1, 1) := by decide +kernel
theorem dX3_canComeDown_1 : decode cX3_canComeDown 1 = .ok (.iload_n 2, 1) := by decide +kernel
theorem dX3_canComeDown_2 : decode cX3_canComeDown 2 = .ok (.invokevirtual 49, 3) := by decide +kernel
theorem dX3_canComeDown_5 : decode cX3_canComeDown 5 = .ok (.ifCond .eq 24, 3) := by decide +kernel
theorem dX3_canComeDown_8 : decode cX3_canComeDown 8 = .ok (.aload_n 0, 1) := by decide +kernel
theorem dX3_canComeDown_9 : decode cX3_canComeDown 9 = .ok (.iload_n 2, 1) := by decide +kernel
theorem dX3_canComeDown_10 : decode cX3_canComeDown 10 = .ok (.invokevirtual 53, 3) := by decide +kernel
theorem dX3_canComeDown_13 : decode cX3_canComeDown 13 = .ok (.ifCond .eq 16, 3) := by decide +kernel
theorem dX3_canComeDown_16 : decode cX3_canComeDown 16 = .ok (.aload_n 0, 1) := by decide +kernel
theorem dX3_canComeDown_17 : decode cX3_canComeDown 17 = .ok (.aload_n 1, 1) := by decide +kernel
theorem dX3_canComeDown_18 : decode cX3_canComeDown 18 = .ok (.iload_n 2, 1) := by decide +kernel
theorem dX3_canComeDown_19 : decode cX3_canComeDown 19 = .ok (.invokevirtual 56, 3) := by decide +kernel
theorem dX3_canComeDown_22 : decode cX3_canComeDown 22 = .ok (.ifCond .ne 7, 3) := by decide +kernel
theorem dX3_canComeDown_25 : decode cX3_canComeDown 25 = .ok (.iconst 1, 1) := by decide +kernel
theorem dX3_canComeDown_26 : decode cX3_canComeDown 26 = .ok (.goto 4, 3) := by decide +kernel
theorem dX3_canComeDown_29 : decode cX3_canComeDown 29 = .ok (.iconst 0, 1) := by decide +kernel
theorem dX3_canComeDown_30 : decode cX3_canComeDown 30 = .ok (.ireturn, 1) := by decide +kernel
theorem dX3_canGoUp_0 : decode cX3_canGoUp 0 = .ok (.aload_n 1, 1) := by decide +kernel
theorem dX3_canGoUp_1 : decode cX3_canGoUp 1 = .ok (.iload_n 2, 1) := by decide +kernel
theorem dX3_canGoUp_2 : decode cX3_canGoUp 2 = .ok (.invokevirtual 49, 3) := by decide +kernel
theorem dX3_canGoUp_5 : decode cX3_canGoUp 5 = .ok (.ifCond .eq 52, 3) := by decide +kernel
theorem dX3_canGoUp_8 : decode cX3_canGoUp 8 = .ok (.aload_n 0, 1) := by decide +kernel
theorem dX3_canGoUp_9 : decode cX3_canGoUp 9 = .ok (.iload_n 2, 1) := by decide +kernel
theorem dX3_canGoUp_10 : decode cX3_canGoUp 10 = .ok (.invokevirtual 53, 3) := by decide +kernel
theorem dX3_canGoUp_13 : decode cX3_canGoUp 13 = .ok (.ifCond .ne 44, 3) := by decide +kernel
theorem dX3_canGoUp_16 : decode cX3_canGoUp 16 = .ok (.aload_n 0, 1) := by decide +kernel
theorem dX3_canGoUp_17 : decode cX3_canGoUp 17 = .ok (.getfield 15, 3) := by decide +kernel
theorem dX3_canGoUp_20 : decode cX3_canGoUp 20 = .ok (.iload_n 2, 1) := by decide +kernel
theorem dX3_canGoUp_21 : decode cX3_canGoUp 21 = .ok (.iaload, 1) := by decide +kernel
theorem dX3_canGoUp_22 : decode cX3_canGoUp 22 = .ok (.aload_n 1, 1) := by decide +kernel
theorem dX3_canGoUp_23 : decode cX3_canGoUp 23 = .ok (.getfield 60, 3) := by decide +kernel
theorem dX3_canGoUp_26 : decode cX3_canGoUp 26 = .ok (.iload_n 2, 1) := by decide +kernel
theorem dX3_canGoUp_27 : decode cX3_canGoUp 27 = .ok (.iaload, 1) := by decide +kernel
theorem dX3_canGoUp_28 : decode cX3_canGoUp 28 = .ok (.if_icmp .ge 29, 3) := by decide +kernel
theorem dX3_canGoUp_31 : decode cX3_canGoUp 31 = .ok (.aload_n 0, 1) := by decide +kernel
theorem dX3_canGoUp_32 : decode cX3_canGoUp 32 = .ok (.aload_n 0, 1) := by decide +kernel
theorem dX3_canGoUp_33 : decode cX3_canGoUp 33 = .ok (.getfield 9, 3) := by decide +kernel
theorem dX3_canGoUp_36 : decode cX3_canGoUp 36 = .ok (.iload_n 2, 1) := by decide +kernel
theorem dX3_canGoUp_37 : decode cX3_canGoUp 37 = .ok (.iaload, 1) := by decide +kernel
theorem dX3_canGoUp_38 : decode cX3_canGoUp 38 = .ok (.invokevirtual 63, 3) := by decide +kernel
theorem dX3_canGoUp_41 : decode cX3_canGoUp 41 = .ok (.ifCond .ne 16, 3) := by decide +kernel
theorem dX3_canGoUp_44 : decode cX3_canGoUp 44 = .ok (.aload_n 0, 1) := by decide +kernel
theorem dX3_canGoUp_45 : decode cX3_canGoUp 45 = .ok (.aload_n 1, 1) := by decide +kernel
theorem dX3_canGoUp_46 : decode cX3_canGoUp 46 = .ok (.iload_n 2, 1) := by decide +kernel
theorem dX3_canGoUp_47 : decode cX3_canGoUp 47 = .ok (.invokevirtual 56, 3) := by decide +kernel
theorem dX3_canGoUp_50 : decode cX3_canGoUp 50 = .ok (.ifCond .ne 7, 3) := by decide +kernel
theorem dX3_canGoUp_53 : decode cX3_canGoUp 53 = .ok (.iconst 1, 1) := by decide +kernel
theorem dX3_canGoUp_54 : decode cX3_canGoUp 54 = .ok (.goto 4, 3) := by decide +kernel
theorem dX3_canGoUp_57 : decode cX3_canGoUp 57 = .ok (.iconst 0, 1) := by decide +kernel
theorem dX3_canGoUp_58 : decode cX3_canGoUp 58 = .ok (.ireturn, 1) := by decide +kernel
theorem dX3_isScared_0 : decode cX3_isScared 0 = .ok (.aload_n 1, 1) := by decide +kernel
theorem dX3_isScared_1 : decode cX3_isScared 1 = .ok (.iload_n 2, 1) := by decide +kernel
theorem dX3_isScared_2 : decode cX3_isScared 2 = .ok (.invokevirtual 49, 3) := by decide +kernel
theorem dX3_isScared_5 : decode cX3_isScared 5 = .ok (.ifCond .eq 28, 3) := by decide +kernel
theorem dX3_isScared_8 : decode cX3_isScared 8 = .ok (.aload_n 1, 1) := by decide +kernel
theorem dX3_isScared_9 : decode cX3_isScared 9 = .ok (.getfield 66, 3) := by decide +kernel
theorem dX3_isScared_12 : decode cX3_isScared 12 = .ok (.iload_n 2, 1) := by decide +kernel
theorem dX3_isScared_13 : decode cX3_isScared 13 = .ok (.iaload, 1) := by decide +kernel
theorem dX3_isScared_14 : decode cX3_isScared 14 = .ok (.iconst 3, 1) := by decide +kernel
theorem dX3_isScared_15 : decode cX3_isScared 15 = .ok (.if_icmp .ne 18, 3) := by decide +kernel
theorem dX3_isScared_18 : decode cX3_isScared 18 = .ok (.aload_n 1, 1) := by decide +kernel
theorem dX3_isScared_19 : decode cX3_isScared 19 = .ok (.aload_n 0, 1) := by decide +kernel
theorem dX3_isScared_20 : decode cX3_isScared 20 = .ok (.getfield 21, 3) := by decide +kernel
theorem dX3_isScared_23 : decode cX3_isScared 23 = .ok (.invokevirtual 69, 3) := by decide +kernel
theorem dX3_isScared_26 : decode cX3_isScared 26 = .ok (.ifCond .eq 7, 3) := by decide +kernel
theorem dX3_isScared_29 : decode cX3_isScared 29 = .ok (.iconst 1, 1) := by decide +kernel
theorem dX3_isScared_30 : decode cX3_isScared 30 = .ok (.goto 4, 3) := by decide +kernel
theorem dX3_isScared_33 : decode cX3_isScared 33 = .ok (.iconst 0, 1) := by decide +kernel
theorem dX3_isScared_34 : decode cX3_isScared 34 = .ok (.ireturn, 1) := by decide +kernel
theorem dX3_upAt_0 : decode cX3_upAt 0 = .ok (.iconst 0, 1) := by decide +kernel
theorem dX3_upAt_1 : decode cX3_upAt 1 = .ok (.istore_n 3, 1) := by decide +kernel
theorem dX3_upAt_2 : decode cX3_upAt 2 = .ok (.iconst 0, 1) := by decide +kernel
theorem dX3_upAt_3 : decode cX3_upAt 3 = .ok (.istore 4, 2) := by decide +kernel
theorem dX3_upAt_5 : decode cX3_upAt 5 = .ok (.iload 4, 2) := by decide +kernel
theorem dX3_upAt_7 : decode cX3_upAt 7 = .ok (.aload_n 1, 1) := by decide +kernel
theorem dX3_upAt_8 : decode cX3_upAt 8 = .ok (.getfield 72, 3) := by decide +kernel
theorem dX3_upAt_11 : decode cX3_upAt 11 = .ok (.if_icmp .ge 39, 3) := by decide +kernel
theorem dX3_upAt_14 : decode cX3_upAt 14 = .ok (.iload 4, 2) := by decide +kernel
theorem dX3_upAt_16 : decode cX3_upAt 16 = .ok (.bipush 6, 2) := by decide +kernel
theorem dX3_upAt_18 : decode cX3_upAt 18 = .ok (.if_icmp .ge 32, 3) := by decide +kernel
theorem dX3_upAt_21 : decode cX3_upAt 21 = .ok (.aload_n 0, 1) := by decide +kernel
theorem dX3_upAt_22 : decode cX3_upAt 22 = .ok (.iload 4, 2) := by decide +kernel
theorem dX3_upAt_24 : decode cX3_upAt 24 = .ok (.invokevirtual 53, 3) := by decide +kernel
theorem dX3_upAt_27 : decode cX3_upAt 27 = .ok (.ifCond .eq 17, 3) := by decide +kernel
theorem dX3_upAt_30 : decode cX3_upAt 30 = .ok (.aload_n 0, 1) := by decide +kernel
theorem dX3_upAt_31 : decode cX3_upAt 31 = .ok (.getfield 9, 3) := by decide +kernel
theorem dX3_upAt_34 : decode cX3_upAt 34 = .ok (.iload 4, 2) := by decide +kernel
theorem dX3_upAt_36 : decode cX3_upAt 36 = .ok (.iaload, 1) := by decide +kernel
theorem dX3_upAt_37 : decode cX3_upAt 37 = .ok (.iload_n 2, 1) := by decide +kernel
theorem dX3_upAt_38 : decode cX3_upAt 38 = .ok (.if_icmp .ne 6, 3) := by decide +kernel
theorem dX3_upAt_41 : decode cX3_upAt 41 = .ok (.iinc 3 1, 3) := by decide +kernel
theorem dX3_upAt_44 : decode cX3_upAt 44 = .ok (.iinc 4 1, 3) := by decide +kernel
theorem dX3_upAt_47 : decode cX3_upAt 47 = .ok (.goto (-42), 3) := by decide +kernel
theorem dX3_upAt_50 : decode cX3_upAt 50 = .ok (.iload_n 3, 1) := by decide +kernel
theorem dX3_upAt_51 : decode cX3_upAt 51 = .ok (.ireturn, 1) := by decide +kernel
theorem dX3_allAtStanding_0 : decode cX3_allAtStanding 0 = .ok (.iconst 0, 1) := by decide +kernel
theorem dX3_allAtStanding_1 : decode cX3_allAtStanding 1 = .ok (.istore_n 3, 1) := by decide +kernel
theorem dX3_allAtStanding_2 : decode cX3_allAtStanding 2 = .ok (.iload_n 3, 1) := by decide +kernel
theorem dX3_allAtStanding_3 : decode cX3_allAtStanding 3 = .ok (.aload_n 1, 1) := by decide +kernel
theorem dX3_allAtStanding_4 : decode cX3_allAtStanding 4 = .ok (.getfield 72, 3) := by decide +kernel
theorem dX3_allAtStanding_7 : decode cX3_allAtStanding 7 = .ok (.if_icmp .ge 38, 3) := by decide +kernel
theorem dX3_allAtStanding_10 : decode cX3_allAtStanding 10 = .ok (.iload_n 3, 1) := by decide +kernel
theorem dX3_allAtStanding_11 : decode cX3_allAtStanding 11 = .ok (.bipush 6, 2) := by decide +kernel
theorem dX3_allAtStanding_13 : decode cX3_allAtStanding 13 = .ok (.if_icmp .ge 32, 3) := by decide +kernel
theorem dX3_allAtStanding_16 : decode cX3_allAtStanding 16 = .ok (.iload_n 2, 1) := by decide +kernel
theorem dX3_allAtStanding_17 : decode cX3_allAtStanding 17 = .ok (.iload_n 3, 1) := by decide +kernel
theorem dX3_allAtStanding_18 : decode cX3_allAtStanding 18 = .ok (.invokestatic 75, 3) := by decide +kernel
theorem dX3_allAtStanding_21 : decode cX3_allAtStanding 21 = .ok (.ifCond .eq 18, 3) := by decide +kernel
theorem dX3_allAtStanding_24 : decode cX3_allAtStanding 24 = .ok (.aload_n 0, 1) := by decide +kernel
theorem dX3_allAtStanding_25 : decode cX3_allAtStanding 25 = .ok (.aload_n 0, 1) := by decide +kernel
theorem dX3_allAtStanding_26 : decode cX3_allAtStanding 26 = .ok (.getfield 9, 3) := by decide +kernel
theorem dX3_allAtStanding_29 : decode cX3_allAtStanding 29 = .ok (.iload_n 3, 1) := by decide +kernel
theorem dX3_allAtStanding_30 : decode cX3_allAtStanding 30 = .ok (.iaload, 1) := by decide +kernel
theorem dX3_allAtStanding_31 : decode cX3_allAtStanding 31 = .ok (.invokevirtual 63, 3) := by decide +kernel
theorem dX3_allAtStanding_34 : decode cX3_allAtStanding 34 = .ok (.ifCond .eq 5, 3) := by decide +kernel
theorem dX3_allAtStanding_37 : decode cX3_allAtStanding 37 = .ok (.iconst 0, 1) := by decide +kernel
theorem dX3_allAtStanding_38 : decode cX3_allAtStanding 38 = .ok (.ireturn, 1) := by decide +kernel
theorem dX3_allAtStanding_39 : decode cX3_allAtStanding 39 = .ok (.iinc 3 1, 3) := by decide +kernel
theorem dX3_allAtStanding_42 : decode cX3_allAtStanding 42 = .ok (.goto (-40), 3) := by decide +kernel
theorem dX3_allAtStanding_45 : decode cX3_allAtStanding 45 = .ok (.iconst 1, 1) := by decide +kernel
theorem dX3_allAtStanding_46 : decode cX3_allAtStanding 46 = .ok (.ireturn, 1) := by decide +kernel
theorem dX4_init_0 : decode cX4_init 0 = .ok (.aload_n 0, 1) := by decide +kernel
theorem dX4_init_1 : decode cX4_init 1 = .ok (.invokespecial 3, 3) := by decide +kernel
theorem dX4_init_4 : decode cX4_init 4 = .ok (.aload_n 0, 1) := by decide +kernel
theorem dX4_init_5 : decode cX4_init 5 = .ok (.sipush 200, 3) := by decide +kernel
theorem dX4_init_8 : decode cX4_init 8 = .ok (.newarray .char, 2) := by decide +kernel
theorem dX4_init_10 : decode cX4_init 10 = .ok (.putfield 9, 3) := by decide +kernel
theorem dX4_init_13 : decode cX4_init 13 = .ok (.return_, 1) := by decide +kernel
theorem dX4_add_0 : decode cX4_add 0 = .ok (.aload_n 0, 1) := by decide +kernel
theorem dX4_add_1 : decode cX4_add 1 = .ok (.getfield 15, 3) := by decide +kernel
theorem dX4_add_4 : decode cX4_add 4 = .ok (.ifCond .lt 13, 3) := by decide +kernel
theorem dX4_add_7 : decode cX4_add 7 = .ok (.aload_n 0, 1) := by decide +kernel
theorem dX4_add_8 : decode cX4_add 8 = .ok (.getfield 15, 3) := by decide +kernel
theorem dX4_add_11 : decode cX4_add 11 = .ok (.sipush 200, 3) := by decide +kernel
theorem dX4_add_14 : decode cX4_add 14 = .ok (.if_icmp .lt 5, 3) := by decide +kernel
theorem dX4_add_17 : decode cX4_add 17 = .ok (.iconst 0, 1) := by decide +kernel
theorem dX4_add_18 : decode cX4_add 18 = .ok (.ireturn, 1) := by decide +kernel
theorem dX4_add_19 : decode cX4_add 19 = .ok (.aload_n 0, 1) := by decide +kernel
theorem dX4_add_20 : decode cX4_add 20 = .ok (.getfield 9, 3) := by decide +kernel
theorem dX4_add_23 : decode cX4_add 23 = .ok (.aload_n 0, 1) := by decide +kernel
theorem dX4_add_24 : decode cX4_add 24 = .ok (.getfield 15, 3) := by decide +kernel
theorem dX4_add_27 : decode cX4_add 27 = .ok (.iload_n 1, 1) := by decide +kernel
theorem dX4_add_28 : decode cX4_add 28 = .ok (.castore, 1) := by decide +kernel
theorem dX4_add_29 : decode cX4_add 29 = .ok (.aload_n 0, 1) := by decide +kernel
theorem dX4_add_30 : decode cX4_add 30 = .ok (.dup, 1) := by decide +kernel
theorem dX4_add_31 : decode cX4_add 31 = .ok (.getfield 15, 3) := by decide +kernel
theorem dX4_add_34 : decode cX4_add 34 = .ok (.iconst 1, 1) := by decide +kernel
theorem dX4_add_35 : decode cX4_add 35 = .ok (.iadd, 1) := by decide +kernel
theorem dX4_add_36 : decode cX4_add 36 = .ok (.putfield 15, 3) := by decide +kernel
theorem dX4_add_39 : decode cX4_add 39 = .ok (.iconst 1, 1) := by decide +kernel
theorem dX4_add_40 : decode cX4_add 40 = .ok (.ireturn, 1) := by decide +kernel
theorem dX4_letterAt_0 : decode cX4_letterAt 0 = .ok (.iload_n 1, 1) := by decide +kernel
theorem dX4_letterAt_1 : decode cX4_letterAt 1 = .ok (.ifCond .lt 27, 3) := by decide +kernel
theorem dX4_letterAt_4 : decode cX4_letterAt 4 = .ok (.iload_n 1, 1) := by decide +kernel
theorem dX4_letterAt_5 : decode cX4_letterAt 5 = .ok (.aload_n 0, 1) := by decide +kernel
theorem dX4_letterAt_6 : decode cX4_letterAt 6 = .ok (.getfield 15, 3) := by decide +kernel
theorem dX4_letterAt_9 : decode cX4_letterAt 9 = .ok (.if_icmp .ge 19, 3) := by decide +kernel
theorem dX4_letterAt_12 : decode cX4_letterAt 12 = .ok (.iload_n 1, 1) := by decide +kernel
theorem dX4_letterAt_13 : decode cX4_letterAt 13 = .ok (.sipush 200, 3) := by decide +kernel
theorem dX4_letterAt_16 : decode cX4_letterAt 16 = .ok (.if_icmp .ge 12, 3) := by decide +kernel
theorem dX4_letterAt_19 : decode cX4_letterAt 19 = .ok (.aload_n 0, 1) := by decide +kernel
theorem dX4_letterAt_20 : decode cX4_letterAt 20 = .ok (.getfield 9, 3) := by decide +kernel
theorem dX4_letterAt_23 : decode cX4_letterAt 23 = .ok (.iload_n 1, 1) := by decide +kernel
theorem dX4_letterAt_24 : decode cX4_letterAt 24 = .ok (.caload, 1) := by decide +kernel
theorem dX4_letterAt_25 : decode cX4_letterAt 25 = .ok (.goto 4, 3) := by decide +kernel
theorem dX4_letterAt_28 : decode cX4_letterAt 28 = .ok (.iconst 0, 1) := by decide +kernel
theorem dX4_letterAt_29 : decode cX4_letterAt 29 = .ok (.ireturn, 1) := by decide +kernel
theorem dX5_init_0 : decode cX5_init 0 = .ok (.aload_n 0, 1) := by decide +kernel
theorem dX5_init_1 : decode cX5_init 1 = .ok (.invokespecial 3, 3) := by decide +kernel
theorem dX5_init_4 : decode cX5_init 4 = .ok (.aload_n 0, 1) := by decide +kernel
theorem dX5_init_5 : decode cX5_init 5 = .ok (.bipush 8, 2) := by decide +kernel
theorem dX5_init_7 : decode cX5_init 7 = .ok (.anewarray 9, 3) := by decide +kernel
theorem dX5_init_10 : decode cX5_init 10 = .ok (.putfield 11, 3) := by decide +kernel
theorem dX5_init_13 : decode cX5_init 13 = .ok (.iconst 0, 1) := by decide +kernel
theorem dX5_init_14 : decode cX5_init 14 = .ok (.istore_n 1, 1) := by decide +kernel
theorem dX5_init_15 : decode cX5_init 15 = .ok (.iload_n 1, 1) := by decide +kernel
theorem dX5_init_16 : decode cX5_init 16 = .ok (.bipush 8, 2) := by decide +kernel
theorem dX5_init_18 : decode cX5_init 18 = .ok (.if_icmp .ge 22, 3) := by decide +kernel
theorem dX5_init_21 : decode cX5_init 21 = .ok (.aload_n 0, 1) := by decide +kernel
theorem dX5_init_22 : decode cX5_init 22 = .ok (.getfield 11, 3) := by decide +kernel
theorem dX5_init_25 : decode cX5_init 25 = .ok (.iload_n 1, 1) := by decide +kernel
theorem dX5_init_26 : decode cX5_init 26 = .ok (.new 9, 3) := by decide +kernel
theorem dX5_init_29 : decode cX5_init 29 = .ok (.dup, 1) := by decide +kernel
theorem dX5_init_30 : decode cX5_init 30 = .ok (.invokespecial 17, 3) := by decide +kernel
theorem dX5_init_33 : decode cX5_init 33 = .ok (.aastore, 1) := by decide +kernel
theorem dX5_init_34 : decode cX5_init 34 = .ok (.iinc 1 1, 3) := by decide +kernel
theorem dX5_init_37 : decode cX5_init 37 = .ok (.goto (-22), 3) := by decide +kernel
theorem dX5_init_40 : decode cX5_init 40 = .ok (.return_, 1) := by decide +kernel
theorem dX5_remember_0 : decode cX5_remember 0 = .ok (.aload_n 0, 1) := by decide +kernel
theorem dX5_remember_1 : decode cX5_remember 1 = .ok (.getfield 11, 3) := by decide +kernel
theorem dX5_remember_4 : decode cX5_remember 4 = .ok (.aload_n 0, 1) := by decide +kernel
theorem dX5_remember_5 : decode cX5_remember 5 = .ok (.getfield 18, 3) := by decide +kernel
theorem dX5_remember_8 : decode cX5_remember 8 = .ok (.aaload, 1) := by decide +kernel
theorem dX5_remember_9 : decode cX5_remember 9 = .ok (.aload_n 1, 1) := by decide +kernel
theorem dX5_remember_10 : decode cX5_remember 10 = .ok (.invokevirtual 22, 3) := by decide +kernel
theorem dX5_remember_13 : decode cX5_remember 13 = .ok (.aload_n 0, 1) := by decide +kernel
theorem dX5_remember_14 : decode cX5_remember 14 = .ok (.aload_n 0, 1) := by decide +kernel
theorem dX5_remember_15 : decode cX5_remember 15 = .ok (.getfield 18, 3) := by decide +kernel
theorem dX5_remember_18 : decode cX5_remember 18 = .ok (.iconst 1, 1) := by decide +kernel
theorem dX5_remember_19 : decode cX5_remember 19 = .ok (.iadd, 1) := by decide +kernel
theorem dX5_remember_20 : decode cX5_remember 20 = .ok (.bipush 8, 2) := by decide +kernel
theorem dX5_remember_22 : decode cX5_remember 22 = .ok (.irem, 1) := by decide +kernel
theorem dX5_remember_23 : decode cX5_remember 23 = .ok (.putfield 18, 3) := by decide +kernel
theorem dX5_remember_26 : decode cX5_remember 26 = .ok (.aload_n 0, 1) := by decide +kernel
theorem dX5_remember_27 : decode cX5_remember 27 = .ok (.aload_n 0, 1) := by decide +kernel
theorem dX5_remember_28 : decode cX5_remember 28 = .ok (.getfield 26, 3) := by decide +kernel
theorem dX5_remember_31 : decode cX5_remember 31 = .ok (.iconst 1, 1) := by decide +kernel
theorem dX5_remember_32 : decode cX5_remember 32 = .ok (.iadd, 1) := by decide +kernel
theorem dX5_remember_33 : decode cX5_remember 33 = .ok (.bipush 8, 2) := by decide +kernel
theorem dX5_remember_35 : decode cX5_remember 35 = .ok (.invokestatic 29, 3) := by decide +kernel
theorem dX5_remember_38 : decode cX5_remember 38 = .ok (.putfield 26, 3) := by decide +kernel
theorem dX5_remember_41 : decode cX5_remember 41 = .ok (.return_, 1) := by decide +kernel
theorem dX5_restore_0 : decode cX5_restore 0 = .ok (.aload_n 0, 1) := by decide +kernel
theorem dX5_restore_1 : decode cX5_restore 1 = .ok (.getfield 26, 3) := by decide +kernel
theorem dX5_restore_4 : decode cX5_restore 4 = .ok (.ifCond .gt 5, 3) := by decide +kernel
theorem dX5_restore_7 : decode cX5_restore 7 = .ok (.iconst 0, 1) := by decide +kernel
theorem dX5_restore_8 : decode cX5_restore 8 = .ok (.ireturn, 1) := by decide +kernel
theorem dX5_restore_9 : decode cX5_restore 9 = .ok (.aload_n 0, 1) := by decide +kernel
theorem dX5_restore_10 : decode cX5_restore 10 = .ok (.aload_n 0, 1) := by decide +kernel
theorem dX5_restore_11 : decode cX5_restore 11 = .ok (.getfield 18, 3) := by decide +kernel
theorem dX5_restore_14 : decode cX5_restore 14 = .ok (.bipush 8, 2) := by decide +kernel
theorem dX5_restore_16 : decode cX5_restore 16 = .ok (.iadd, 1) := by decide +kernel
theorem dX5_restore_17 : decode cX5_restore 17 = .ok (.iconst 1, 1) := by decide +kernel
theorem dX5_restore_18 : decode cX5_restore 18 = .ok (.isub, 1) := by decide +kernel
theorem dX5_restore_19 : decode cX5_restore 19 = .ok (.bipush 8, 2) := by decide +kernel
theorem dX5_restore_21 : decode cX5_restore 21 = .ok (.irem, 1) := by decide +kernel
theorem dX5_restore_22 : decode cX5_restore 22 = .ok (.putfield 18, 3) := by decide +kernel
theorem dX5_restore_25 : decode cX5_restore 25 = .ok (.aload_n 0, 1) := by decide +kernel
theorem dX5_restore_26 : decode cX5_restore 26 = .ok (.dup, 1) := by decide +kernel
theorem dX5_restore_27 : decode cX5_restore 27 = .ok (.getfield 26, 3) := by decide +kernel
theorem dX5_restore_30 : decode cX5_restore 30 = .ok (.iconst 1, 1) := by decide +kernel
theorem dX5_restore_31 : decode cX5_restore 31 = .ok (.isub, 1) := by decide +kernel
theorem dX5_restore_32 : decode cX5_restore 32 = .ok (.putfield 26, 3) := by decide +kernel
theorem dX5_restore_35 : decode cX5_restore 35 = .ok (.aload_n 1, 1) := by decide +kernel
theorem dX5_restore_36 : decode cX5_restore 36 = .ok (.aload_n 0, 1) := by decide +kernel
theorem dX5_restore_37 : decode cX5_restore 37 = .ok (.getfield 11, 3) := by decide +kernel
theorem dX5_restore_40 : decode cX5_restore 40 = .ok (.aload_n 0, 1) := by decide +kernel
theorem dX5_restore_41 : decode cX5_restore 41 = .ok (.getfield 18, 3) := by decide +kernel
theorem dX5_restore_44 : decode cX5_restore 44 = .ok (.aaload, 1) := by decide +kernel
theorem dX5_restore_45 : decode cX5_restore 45 = .ok (.invokevirtual 22, 3) := by decide +kernel
theorem dX5_restore_48 : decode cX5_restore 48 = .ok (.iconst 1, 1) := by decide +kernel
theorem dX5_restore_49 : decode cX5_restore 49 = .ok (.ireturn, 1) := by decide +kernel
theorem dX5_forget_0 : decode cX5_forget 0 = .ok (.aload_n 0, 1) := by decide +kernel
theorem dX5_forget_1 : decode cX5_forget 1 = .ok (.iconst 0, 1) := by decide +kernel
theorem dX5_forget_2 : decode cX5_forget 2 = .ok (.putfield 26, 3) := by decide +kernel
theorem dX5_forget_5 : decode cX5_forget 5 = .ok (.return_, 1) := by decide +kernel
theorem dX6_init_0 : decode cX6_init 0 = .ok (.aload_n 0, 1) := by decide +kernel
theorem dX6_init_1 : decode cX6_init 1 = .ok (.invokespecial 3, 3) := by decide +kernel
theorem dX6_init_4 : decode cX6_init 4 = .ok (.aload_n 0, 1) := by decide +kernel
theorem dX6_init_5 : decode cX6_init 5 = .ok (.new 9, 3) := by decide +kernel
theorem dX6_init_8 : decode cX6_init 8 = .ok (.dup, 1) := by decide +kernel
theorem dX6_init_9 : decode cX6_init 9 = .ok (.invokespecial 11, 3) := by decide +kernel
theorem dX6_init_12 : decode cX6_init 12 = .ok (.putfield 12, 3) := by decide +kernel
theorem dX6_init_15 : decode cX6_init 15 = .ok (.aload_n 0, 1) := by decide +kernel
theorem dX6_init_16 : decode cX6_init 16 = .ok (.new 18, 3) := by decide +kernel
theorem dX6_init_19 : decode cX6_init 19 = .ok (.dup, 1) := by decide +kernel
theorem dX6_init_20 : decode cX6_init 20 = .ok (.invokespecial 20, 3) := by decide +kernel
theorem dX6_init_23 : decode cX6_init 23 = .ok (.putfield 21, 3) := by decide +kernel
theorem dX6_init_26 : decode cX6_init 26 = .ok (.return_, 1) := by decide +kernel
theorem dX6_startFrom_0 : decode cX6_startFrom 0 = .ok (.aload_n 0, 1) := by decide +kernel
theorem dX6_startFrom_1 : decode cX6_startFrom 1 = .ok (.getfield 12, 3) := by decide +kernel
theorem dX6_startFrom_4 : decode cX6_startFrom 4 = .ok (.aload_n 1, 1) := by decide +kernel
theorem dX6_startFrom_5 : decode cX6_startFrom 5 = .ok (.invokevirtual 25, 3) := by decide +kernel
theorem dX6_startFrom_8 : decode cX6_startFrom 8 = .ok (.aload_n 0, 1) := by decide +kernel
theorem dX6_startFrom_9 : decode cX6_startFrom 9 = .ok (.iconst 0, 1) := by decide +kernel
theorem dX6_startFrom_10 : decode cX6_startFrom 10 = .ok (.putfield 29, 3) := by decide +kernel
theorem dX6_startFrom_13 : decode cX6_startFrom 13 = .ok (.return_, 1) := by decide +kernel
theorem dX6_fallsBehind_0 : decode cX6_fallsBehind 0 = .ok (.iconst 0, 1) := by decide +kernel
theorem dX6_fallsBehind_1 : decode cX6_fallsBehind 1 = .ok (.istore_n 3, 1) := by decide +kernel
theorem dX6_fallsBehind_2 : decode cX6_fallsBehind 2 = .ok (.iload_n 3, 1) := by decide +kernel
theorem dX6_fallsBehind_3 : decode cX6_fallsBehind 3 = .ok (.iload_n 2, 1) := by decide +kernel
theorem dX6_fallsBehind_4 : decode cX6_fallsBehind 4 = .ok (.if_icmp .ge 36, 3) := by decide +kernel
theorem dX6_fallsBehind_7 : decode cX6_fallsBehind 7 = .ok (.aload_n 0, 1) := by decide +kernel
theorem dX6_fallsBehind_8 : decode cX6_fallsBehind 8 = .ok (.aload_n 0, 1) := by decide +kernel
theorem dX6_fallsBehind_9 : decode cX6_fallsBehind 9 = .ok (.getfield 21, 3) := by decide +kernel
theorem dX6_fallsBehind_12 : decode cX6_fallsBehind 12 = .ok (.aload_n 1, 1) := by decide +kernel
theorem dX6_fallsBehind_13 : decode cX6_fallsBehind 13 = .ok (.aload_n 0, 1) := by decide +kernel
theorem dX6_fallsBehind_14 : decode cX6_fallsBehind 14 = .ok (.getfield 12, 3) := by decide +kernel
theorem dX6_fallsBehind_17 : decode cX6_fallsBehind 17 = .ok (.invokevirtual 33, 3) := by decide +kernel
theorem dX6_fallsBehind_20 : decode cX6_fallsBehind 20 = .ok (.putfield 29, 3) := by decide +kernel
theorem dX6_fallsBehind_23 : decode cX6_fallsBehind 23 = .ok (.aload_n 0, 1) := by decide +kernel
theorem dX6_fallsBehind_24 : decode cX6_fallsBehind 24 = .ok (.getfield 29, 3) := by decide +kernel
theorem dX6_fallsBehind_27 : decode cX6_fallsBehind 27 = .ok (.ifCond .eq 7, 3) := by decide +kernel
theorem dX6_fallsBehind_30 : decode cX6_fallsBehind 30 = .ok (.iload_n 3, 1) := by decide +kernel
theorem dX6_fallsBehind_31 : decode cX6_fallsBehind 31 = .ok (.iconst 1, 1) := by decide +kernel
theorem dX6_fallsBehind_32 : decode cX6_fallsBehind 32 = .ok (.iadd, 1) := by decide +kernel
theorem dX6_fallsBehind_33 : decode cX6_fallsBehind 33 = .ok (.ireturn, 1) := by decide +kernel
theorem dX6_fallsBehind_34 : decode cX6_fallsBehind 34 = .ok (.iinc 3 1, 3) := by decide +kernel
theorem dX6_fallsBehind_37 : decode cX6_fallsBehind 37 = .ok (.goto (-35), 3) := by decide +kernel
theorem dX6_fallsBehind_40 : decode cX6_fallsBehind 40 = .ok (.bipush (-4), 2) := by decide +kernel
theorem dX6_fallsBehind_42 : decode cX6_fallsBehind 42 = .ok (.ireturn, 1) := by decide +kernel
theorem dX6_lowestFell_0 : decode cX6_lowestFell 0 = .ok (.aload_n 0, 1) := by decide +kernel
theorem dX6_lowestFell_1 : decode cX6_lowestFell 1 = .ok (.getfield 29, 3) := by decide +kernel
theorem dX6_lowestFell_4 : decode cX6_lowestFell 4 = .ok (.ifCond .ne 8, 3) := by decide +kernel
theorem dX6_lowestFell_7 : decode cX6_lowestFell 7 = .ok (.bipush (-4), 2) := by decide +kernel
theorem dX6_lowestFell_9 : decode cX6_lowestFell 9 = .ok (.goto 10, 3) := by decide +kernel
theorem dX6_lowestFell_12 : decode cX6_lowestFell 12 = .ok (.aload_n 0, 1) := by decide +kernel
theorem dX6_lowestFell_13 : decode cX6_lowestFell 13 = .ok (.getfield 29, 3) := by decide +kernel
theorem dX6_lowestFell_16 : decode cX6_lowestFell 16 = .ok (.invokestatic 37, 3) := by decide +kernel
theorem dX6_lowestFell_19 : decode cX6_lowestFell 19 = .ok (.ireturn, 1) := by decide +kernel
theorem dX6_standsFor_0 : decode cX6_standsFor 0 = .ok (.aload_n 0, 1) := by decide +kernel
theorem dX6_standsFor_1 : decode cX6_standsFor 1 = .ok (.aload_n 1, 1) := by decide +kernel
theorem dX6_standsFor_2 : decode cX6_standsFor 2 = .ok (.bipush 60, 2) := by decide +kernel
theorem dX6_standsFor_4 : decode cX6_standsFor 4 = .ok (.invokevirtual 43, 3) := by decide +kernel
theorem dX6_standsFor_7 : decode cX6_standsFor 7 = .ok (.istore_n 2, 1) := by decide +kernel
theorem dX6_standsFor_8 : decode cX6_standsFor 8 = .ok (.iload_n 2, 1) := by decide +kernel
theorem dX6_standsFor_9 : decode cX6_standsFor 9 = .ok (.bipush (-4), 2) := by decide +kernel
theorem dX6_standsFor_11 : decode cX6_standsFor 11 = .ok (.if_icmp .ne 8, 3) := by decide +kernel
theorem dX6_standsFor_14 : decode cX6_standsFor 14 = .ok (.bipush 61, 2) := by decide +kernel
theorem dX6_standsFor_16 : decode cX6_standsFor 16 = .ok (.goto 4, 3) := by decide +kernel
theorem dX6_standsFor_19 : decode cX6_standsFor 19 = .ok (.iload_n 2, 1) := by decide +kernel
theorem dX6_standsFor_20 : decode cX6_standsFor 20 = .ok (.ireturn, 1) := by decide +kernel
theorem dX6_givesWayBehind_0 : decode cX6_givesWayBehind 0 = .ok (.iconst 1, 1) := by decide +kernel
theorem dX6_givesWayBehind_1 : decode cX6_givesWayBehind 1 = .ok (.istore 4, 2) := by decide +kernel
theorem dX6_givesWayBehind_3 : decode cX6_givesWayBehind 3 = .ok (.iload 4, 2) := by decide +kernel
theorem dX6_givesWayBehind_5 : decode cX6_givesWayBehind 5 = .ok (.iload_n 3, 1) := by decide +kernel
theorem dX6_givesWayBehind_6 : decode cX6_givesWayBehind 6 = .ok (.if_icmp .gt 72, 3) := by decide +kernel
theorem dX6_givesWayBehind_9 : decode cX6_givesWayBehind 9 = .ok (.aload_n 0, 1) := by decide +kernel
theorem dX6_givesWayBehind_10 : decode cX6_givesWayBehind 10 = .ok (.getfield 21, 3) := by decide +kernel
theorem dX6_givesWayBehind_13 : decode cX6_givesWayBehind 13 = .ok (.aload_n 1, 1) := by decide +kernel
theorem dX6_givesWayBehind_14 : decode cX6_givesWayBehind 14 = .ok (.aload_n 0, 1) := by decide +kernel
theorem dX6_givesWayBehind_15 : decode cX6_givesWayBehind 15 = .ok (.getfield 12, 3) := by decide +kernel
theorem dX6_givesWayBehind_18 : decode cX6_givesWayBehind 18 = .ok (.invokevirtual 33, 3) := by decide +kernel
theorem dX6_givesWayBehind_21 : decode cX6_givesWayBehind 21 = .ok (.pop, 1) := by decide +kernel
theorem dX6_givesWayBehind_22 : decode cX6_givesWayBehind 22 = .ok (.aload_n 0, 1) := by decide +kernel
theorem dX6_givesWayBehind_23 : decode cX6_givesWayBehind 23 = .ok (.getfield 12, 3) := by decide +kernel
theorem dX6_givesWayBehind_26 : decode cX6_givesWayBehind 26 = .ok (.iload_n 2, 1) := by decide +kernel
theorem dX6_givesWayBehind_27 : decode cX6_givesWayBehind 27 = .ok (.invokevirtual 47, 3) := by decide +kernel
theorem dX6_givesWayBehind_30 : decode cX6_givesWayBehind 30 = .ok (.ifCond .ne 42, 3) := by decide +kernel
theorem dX6_givesWayBehind_33 : decode cX6_givesWayBehind 33 = .ok (.iload 4, 2) := by decide +kernel
theorem dX6_givesWayBehind_35 : decode cX6_givesWayBehind 35 = .ok (.iload_n 3, 1) := by decide +kernel
theorem dX6_givesWayBehind_36 : decode cX6_givesWayBehind 36 = .ok (.if_icmp .ne 34, 3) := by decide +kernel
theorem dX6_givesWayBehind_39 : decode cX6_givesWayBehind 39 = .ok (.aload_n 1, 1) := by decide +kernel
theorem dX6_givesWayBehind_40 : decode cX6_givesWayBehind 40 = .ok (.iload_n 2, 1) := by decide +kernel
theorem dX6_givesWayBehind_41 : decode cX6_givesWayBehind 41 = .ok (.invokevirtual 51, 3) := by decide +kernel
theorem dX6_givesWayBehind_44 : decode cX6_givesWayBehind 44 = .ok (.ifCond .eq 26, 3) := by decide +kernel
theorem dX6_givesWayBehind_47 : decode cX6_givesWayBehind 47 = .ok (.aload_n 0, 1) := by decide +kernel
theorem dX6_givesWayBehind_48 : decode cX6_givesWayBehind 48 = .ok (.getfield 12, 3) := by decide +kernel
theorem dX6_givesWayBehind_51 : decode cX6_givesWayBehind 51 = .ok (.aload_n 0, 1) := by decide +kernel
theorem dX6_givesWayBehind_52 : decode cX6_givesWayBehind 52 = .ok (.getfield 12, 3) := by decide +kernel
theorem dX6_givesWayBehind_55 : decode cX6_givesWayBehind 55 = .ok (.getfield 56, 3) := by decide +kernel
theorem dX6_givesWayBehind_58 : decode cX6_givesWayBehind 58 = .ok (.iload_n 2, 1) := by decide +kernel
theorem dX6_givesWayBehind_59 : decode cX6_givesWayBehind 59 = .ok (.iaload, 1) := by decide +kernel
theorem dX6_givesWayBehind_60 : decode cX6_givesWayBehind 60 = .ok (.invokevirtual 60, 3) := by decide +kernel
theorem dX6_givesWayBehind_63 : decode cX6_givesWayBehind 63 = .ok (.ifCond .ne 7, 3) := by decide +kernel
theorem dX6_givesWayBehind_66 : decode cX6_givesWayBehind 66 = .ok (.iconst 1, 1) := by decide +kernel
theorem dX6_givesWayBehind_67 : decode cX6_givesWayBehind 67 = .ok (.goto 4, 3) := by decide +kernel
theorem dX6_givesWayBehind_70 : decode cX6_givesWayBehind 70 = .ok (.iconst 0, 1) := by decide +kernel
theorem dX6_givesWayBehind_71 : decode cX6_givesWayBehind 71 = .ok (.ireturn, 1) := by decide +kernel
theorem dX6_givesWayBehind_72 : decode cX6_givesWayBehind 72 = .ok (.iinc 4 1, 3) := by decide +kernel
theorem dX6_givesWayBehind_75 : decode cX6_givesWayBehind 75 = .ok (.goto (-72), 3) := by decide +kernel
theorem dX6_givesWayBehind_78 : decode cX6_givesWayBehind 78 = .ok (.iconst 0, 1) := by decide +kernel
theorem dX6_givesWayBehind_79 : decode cX6_givesWayBehind 79 = .ok (.ireturn, 1) := by decide +kernel
theorem dX6_followDraw_0 : decode cX6_followDraw 0 = .ok (.aload_n 1, 1) := by decide +kernel
theorem dX6_followDraw_1 : decode cX6_followDraw 1 = .ok (.getfield 63, 3) := by decide +kernel
theorem dX6_followDraw_4 : decode cX6_followDraw 4 = .ok (.ifCond .le 10, 3) := by decide +kernel
theorem dX6_followDraw_7 : decode cX6_followDraw 7 = .ok (.aload_n 1, 1) := by decide +kernel
theorem dX6_followDraw_8 : decode cX6_followDraw 8 = .ok (.getfield 66, 3) := by decide +kernel
theorem dX6_followDraw_11 : decode cX6_followDraw 11 = .ok (.ifCond .gt 4, 3) := by decide +kernel
theorem dX6_followDraw_14 : decode cX6_followDraw 14 = .ok (.return_, 1) := by decide +kernel
theorem dX6_followDraw_15 : decode cX6_followDraw 15 = .ok (.iload_n 2, 1) := by decide +kernel
theorem dX6_followDraw_16 : decode cX6_followDraw 16 = .ok (.bipush 8, 2) := by decide +kernel
theorem dX6_followDraw_18 : decode cX6_followDraw 18 = .ok (.idiv, 1) := by decide +kernel
theorem dX6_followDraw_19 : decode cX6_followDraw 19 = .ok (.aload_n 1, 1) := by decide +kernel
theorem dX6_followDraw_20 : decode cX6_followDraw 20 = .ok (.getfield 63, 3) := by decide +kernel
theorem dX6_followDraw_23 : decode cX6_followDraw 23 = .ok (.irem, 1) := by decide +kernel
theorem dX6_followDraw_24 : decode cX6_followDraw 24 = .ok (.istore_n 3, 1) := by decide +kernel
theorem dX6_followDraw_25 : decode cX6_followDraw 25 = .ok (.aload_n 1, 1) := by decide +kernel
theorem dX6_followDraw_26 : decode cX6_followDraw 26 = .ok (.iload_n 3, 1) := by decide +kernel
theorem dX6_followDraw_27 : decode cX6_followDraw 27 = .ok (.invokevirtual 51, 3) := by decide +kernel
theorem dX6_followDraw_30 : decode cX6_followDraw 30 = .ok (.ifCond .ne 4, 3) := by decide +kernel
theorem dX6_followDraw_33 : decode cX6_followDraw 33 = .ok (.return_, 1) := by decide +kernel
theorem dX6_followDraw_34 : decode cX6_followDraw 34 = .ok (.iload_n 2, 1) := by decide +kernel
theorem dX6_followDraw_35 : decode cX6_followDraw 35 = .ok (.bipush 8, 2) := by decide +kernel
theorem dX6_followDraw_37 : decode cX6_followDraw 37 = .ok (.irem, 1) := by decide +kernel
theorem dX6_followDraw_38 : decode cX6_followDraw 38 = .ok (.istore 4, 2) := by decide +kernel
theorem dX6_followDraw_40 : decode cX6_followDraw 40 = .ok (.iload 4, 2) := by decide +kernel
theorem dX6_followDraw_42 : decode cX6_followDraw 42 = .ok (.ifCond .ne 26, 3) := by decide +kernel
theorem dX6_followDraw_45 : decode cX6_followDraw 45 = .ok (.aload_n 0, 1) := by decide +kernel
theorem dX6_followDraw_46 : decode cX6_followDraw 46 = .ok (.getfield 12, 3) := by decide +kernel
theorem dX6_followDraw_49 : decode cX6_followDraw 49 = .ok (.aload_n 1, 1) := by decide +kernel
theorem dX6_followDraw_50 : decode cX6_followDraw 50 = .ok (.iload_n 3, 1) := by decide +kernel
theorem dX6_followDraw_51 : decode cX6_followDraw 51 = .ok (.invokevirtual 69, 3) := by decide +kernel
theorem dX6_followDraw_54 : decode cX6_followDraw 54 = .ok (.ifCond .eq 14, 3) := by decide +kernel
theorem dX6_followDraw_57 : decode cX6_followDraw 57 = .ok (.aload_n 0, 1) := by decide +kernel
theorem dX6_followDraw_58 : decode cX6_followDraw 58 = .ok (.getfield 12, 3) := by decide +kernel
theorem dX6_followDraw_61 : decode cX6_followDraw 61 = .ok (.iload_n 3, 1) := by decide +kernel
theorem dX6_followDraw_62 : decode cX6_followDraw 62 = .ok (.invokevirtual 73, 3) := by decide +kernel
theorem dX6_followDraw_65 : decode cX6_followDraw 65 = .ok (.goto 73, 3) := by decide +kernel
theorem dX6_followDraw_68 : decode cX6_followDraw 68 = .ok (.iload 4, 2) := by decide +kernel
theorem dX6_followDraw_70 : decode cX6_followDraw 70 = .ok (.iconst 1, 1) := by decide +kernel
theorem dX6_followDraw_71 : decode cX6_followDraw 71 = .ok (.if_icmp .eq 9, 3) := by decide +kernel
theorem dX6_followDraw_74 : decode cX6_followDraw 74 = .ok (.iload 4, 2) := by decide +kernel
theorem dX6_followDraw_76 : decode cX6_followDraw 76 = .ok (.iconst 2, 1) := by decide +kernel
theorem dX6_followDraw_77 : decode cX6_followDraw 77 = .ok (.if_icmp .ne 26, 3) := by decide +kernel
theorem dX6_followDraw_80 : decode cX6_followDraw 80 = .ok (.aload_n 0, 1) := by decide +kernel
theorem dX6_followDraw_81 : decode cX6_followDraw 81 = .ok (.getfield 12, 3) := by decide +kernel
theorem dX6_followDraw_84 : decode cX6_followDraw 84 = .ok (.aload_n 1, 1) := by decide +kernel
theorem dX6_followDraw_85 : decode cX6_followDraw 85 = .ok (.iload_n 3, 1) := by decide +kernel
theorem dX6_followDraw_86 : decode cX6_followDraw 86 = .ok (.invokevirtual 77, 3) := by decide +kernel
theorem dX6_followDraw_89 : decode cX6_followDraw 89 = .ok (.ifCond .eq 14, 3) := by decide +kernel
theorem dX6_followDraw_92 : decode cX6_followDraw 92 = .ok (.aload_n 0, 1) := by decide +kernel
theorem dX6_followDraw_93 : decode cX6_followDraw 93 = .ok (.getfield 12, 3) := by decide +kernel
theorem dX6_followDraw_96 : decode cX6_followDraw 96 = .ok (.iload_n 3, 1) := by decide +kernel
theorem dX6_followDraw_97 : decode cX6_followDraw 97 = .ok (.invokevirtual 80, 3) := by decide +kernel
theorem dX6_followDraw_100 : decode cX6_followDraw 100 = .ok (.goto 38, 3) := by decide +kernel
theorem dX6_followDraw_103 : decode cX6_followDraw 103 = .ok (.iload 4, 2) := by decide +kernel
theorem dX6_followDraw_105 : decode cX6_followDraw 105 = .ok (.iconst 3, 1) := by decide +kernel
theorem dX6_followDraw_106 : decode cX6_followDraw 106 = .ok (.if_icmp .ne 32, 3) := by decide +kernel
theorem dX6_followDraw_109 : decode cX6_followDraw 109 = .ok (.aload_n 0, 1) := by decide +kernel
theorem dX6_followDraw_110 : decode cX6_followDraw 110 = .ok (.getfield 12, 3) := by decide +kernel
theorem dX6_followDraw_113 : decode cX6_followDraw 113 = .ok (.iload_n 3, 1) := by decide +kernel
theorem dX6_followDraw_114 : decode cX6_followDraw 114 = .ok (.invokevirtual 47, 3) := by decide +kernel
theorem dX6_followDraw_117 : decode cX6_followDraw 117 = .ok (.ifCond .ne 21, 3) := by decide +kernel
theorem dX6_followDraw_120 : decode cX6_followDraw 120 = .ok (.aload_n 0, 1) := by decide +kernel
theorem dX6_followDraw_121 : decode cX6_followDraw 121 = .ok (.getfield 12, 3) := by decide +kernel
theorem dX6_followDraw_124 : decode cX6_followDraw 124 = .ok (.getfield 56, 3) := by decide +kernel
theorem dX6_followDraw_127 : decode cX6_followDraw 127 = .ok (.iload_n 3, 1) := by decide +kernel
theorem dX6_followDraw_128 : decode cX6_followDraw 128 = .ok (.iload_n 2, 1) := by decide +kernel
theorem dX6_followDraw_129 : decode cX6_followDraw 129 = .ok (.bipush 64, 2) := by decide +kernel
theorem dX6_followDraw_131 : decode cX6_followDraw 131 = .ok (.idiv, 1) := by decide +kernel
theorem dX6_followDraw_132 : decode cX6_followDraw 132 = .ok (.aload_n 1, 1) := by decide +kernel
theorem dX6_followDraw_133 : decode cX6_followDraw 133 = .ok (.getfield 66, 3) := by decide +kernel
theorem dX6_followDraw_136 : decode cX6_followDraw 136 = .ok (.irem, 1) := by decide +kernel
theorem dX6_followDraw_137 : decode cX6_followDraw 137 = .ok (.iastore, 1) := by decide +kernel
theorem dX6_followDraw_138 : decode cX6_followDraw 138 = .ok (.return_, 1) := by decide +kernel
theorem dX7_init_0 : decode cX7_init 0 = .ok (.aload_n 0, 1) := by decide +kernel
theorem dX7_init_1 : decode cX7_init 1 = .ok (.invokespecial 3, 3) := by decide +kernel
theorem dX7_init_4 : decode cX7_init 4 = .ok (.aload_n 0, 1) := by decide +kernel
theorem dX7_init_5 : decode cX7_init 5 = .ok (.bipush 8, 2) := by decide +kernel
theorem dX7_init_7 : decode cX7_init 7 = .ok (.newarray .int, 2) := by decide +kernel
theorem dX7_init_9 : decode cX7_init 9 = .ok (.putfield 9, 3) := by decide +kernel
theorem dX7_init_12 : decode cX7_init 12 = .ok (.aload_n 0, 1) := by decide +kernel
theorem dX7_init_13 : decode cX7_init 13 = .ok (.bipush 8, 2) := by decide +kernel
theorem dX7_init_15 : decode cX7_init 15 = .ok (.newarray .int, 2) := by decide +kernel
theorem dX7_init_17 : decode cX7_init 17 = .ok (.putfield 15, 3) := by decide +kernel
theorem dX7_init_20 : decode cX7_init 20 = .ok (.aload_n 0, 1) := by decide +kernel
theorem dX7_init_21 : decode cX7_init 21 = .ok (.bipush 6, 2) := by decide +kernel
theorem dX7_init_23 : decode cX7_init 23 = .ok (.newarray .int, 2) := by decide +kernel
theorem dX7_init_25 : decode cX7_init 25 = .ok (.putfield 18, 3) := by decide +kernel
theorem dX7_init_28 : decode cX7_init 28 = .ok (.aload_n 0, 1) := by decide +kernel
theorem dX7_init_29 : decode cX7_init 29 = .ok (.bipush 6, 2) := by decide +kernel
theorem dX7_init_31 : decode cX7_init 31 = .ok (.newarray .int, 2) := by decide +kernel
theorem dX7_init_33 : decode cX7_init 33 = .ok (.putfield 21, 3) := by decide +kernel
theorem dX7_init_36 : decode cX7_init 36 = .ok (.aload_n 0, 1) := by decide +kernel
theorem dX7_init_37 : decode cX7_init 37 = .ok (.bipush 6, 2) := by decide +kernel
theorem dX7_init_39 : decode cX7_init 39 = .ok (.newarray .int, 2) := by decide +kernel
theorem dX7_init_41 : decode cX7_init 41 = .ok (.putfield 24, 3) := by decide +kernel
theorem dX7_init_44 : decode cX7_init 44 = .ok (.aload_n 0, 1) := by decide +kernel
theorem dX7_init_45 : decode cX7_init 45 = .ok (.bipush 6, 2) := by decide +kernel
theorem dX7_init_47 : decode cX7_init 47 = .ok (.newarray .int, 2) := by decide +kernel
theorem dX7_init_49 : decode cX7_init 49 = .ok (.putfield 27, 3) := by decide +kernel
theorem dX7_init_52 : decode cX7_init 52 = .ok (.return_, 1) := by decide +kernel
theorem dX7_clear_0 : decode cX7_clear 0 = .ok (.aload_n 0, 1) := by decide +kernel
theorem dX7_clear_1 : decode cX7_clear 1 = .ok (.iconst 0, 1) := by decide +kernel
theorem dX7_clear_2 : decode cX7_clear 2 = .ok (.putfield 30, 3) := by decide +kernel
theorem dX7_clear_5 : decode cX7_clear 5 = .ok (.aload_n 0, 1) := by decide +kernel
theorem dX7_clear_6 : decode cX7_clear 6 = .ok (.iconst 0, 1) := by decide +kernel
theorem dX7_clear_7 : decode cX7_clear 7 = .ok (.putfield 34, 3) := by decide +kernel
theorem dX7_clear_10 : decode cX7_clear 10 = .ok (.aload_n 0, 1) := by decide +kernel
theorem dX7_clear_11 : decode cX7_clear 11 = .ok (.iconst 0, 1) := by decide +kernel
theorem dX7_clear_12 : decode cX7_clear 12 = .ok (.putfield 37, 3) := by decide +kernel
theorem dX7_clear_15 : decode cX7_clear 15 = .ok (.aload_n 0, 1) := by decide +kernel
theorem dX7_clear_16 : decode cX7_clear 16 = .ok (.iconst 0, 1) := by decide +kernel
theorem dX7_clear_17 : decode cX7_clear 17 = .ok (.putfield 40, 3) := by decide +kernel
theorem dX7_clear_20 : decode cX7_clear 20 = .ok (.aload_n 0, 1) := by decide +kernel
theorem dX7_clear_21 : decode cX7_clear 21 = .ok (.iconst 0, 1) := by decide +kernel
theorem dX7_clear_22 : decode cX7_clear 22 = .ok (.putfield 43, 3) := by decide +kernel
theorem dX7_clear_25 : decode cX7_clear 25 = .ok (.return_, 1) := by decide +kernel
theorem dX7_takeFrom_0 : decode cX7_takeFrom 0 = .ok (.aload_n 0, 1) := by decide +kernel
theorem dX7_takeFrom_1 : decode cX7_takeFrom 1 = .ok (.aload_n 1, 1) := by decide +kernel
theorem dX7_takeFrom_2 : decode cX7_takeFrom 2 = .ok (.getfield 30, 3) := by decide +kernel
theorem dX7_takeFrom_5 : decode cX7_takeFrom 5 = .ok (.putfield 30, 3) := by decide +kernel
theorem dX7_takeFrom_8 : decode cX7_takeFrom 8 = .ok (.aload_n 0, 1) := by decide +kernel
theorem dX7_takeFrom_9 : decode cX7_takeFrom 9 = .ok (.aload_n 1, 1) := by decide +kernel
theorem dX7_takeFrom_10 : decode cX7_takeFrom 10 = .ok (.getfield 34, 3) := by decide +kernel
theorem dX7_takeFrom_13 : decode cX7_takeFrom 13 = .ok (.putfield 34, 3) := by decide +kernel
theorem dX7_takeFrom_16 : decode cX7_takeFrom 16 = .ok (.aload_n 0, 1) := by decide +kernel
theorem dX7_takeFrom_17 : decode cX7_takeFrom 17 = .ok (.aload_n 1, 1) := by decide +kernel
theorem dX7_takeFrom_18 : decode cX7_takeFrom 18 = .ok (.getfield 37, 3) := by decide +kernel
theorem dX7_takeFrom_21 : decode cX7_takeFrom 21 = .ok (.putfield 37, 3) := by decide +kernel
theorem dX7_takeFrom_24 : decode cX7_takeFrom 24 = .ok (.aload_n 0, 1) := by decide +kernel
theorem dX7_takeFrom_25 : decode cX7_takeFrom 25 = .ok (.aload_n 1, 1) := by decide +kernel
theorem dX7_takeFrom_26 : decode cX7_takeFrom 26 = .ok (.getfield 40, 3) := by decide +kernel
theorem dX7_takeFrom_29 : decode cX7_takeFrom 29 = .ok (.putfield 40, 3) := by decide +kernel
theorem dX7_takeFrom_32 : decode cX7_takeFrom 32 = .ok (.aload_n 0, 1) := by decide +kernel
theorem dX7_takeFrom_33 : decode cX7_takeFrom 33 = .ok (.aload_n 1, 1) := by decide +kernel
theorem dX7_takeFrom_34 : decode cX7_takeFrom 34 = .ok (.getfield 43, 3) := by decide +kernel
theorem dX7_takeFrom_37 : decode cX7_takeFrom 37 = .ok (.putfield 43, 3) := by decide +kernel
theorem dX7_takeFrom_40 : decode cX7_takeFrom 40 = .ok (.aload_n 1, 1) := by decide +kernel
theorem dX7_takeFrom_41 : decode cX7_takeFrom 41 = .ok (.getfield 9, 3) := by decide +kernel
theorem dX7_takeFrom_44 : decode cX7_takeFrom 44 = .ok (.iconst 0, 1) := by decide +kernel
theorem dX7_takeFrom_45 : decode cX7_takeFrom 45 = .ok (.aload_n 0, 1) := by decide +kernel
theorem dX7_takeFrom_46 : decode cX7_takeFrom 46 = .ok (.getfield 9, 3) := by decide +kernel
theorem dX7_takeFrom_49 : decode cX7_takeFrom 49 = .ok (.iconst 0, 1) := by decide +kernel
theorem dX7_takeFrom_50 : decode cX7_takeFrom 50 = .ok (.bipush 8, 2) := by decide +kernel
theorem dX7_takeFrom_52 : decode cX7_takeFrom 52 = .ok (.invokestatic 46, 3) := by decide +kernel
theorem dX7_takeFrom_55 : decode cX7_takeFrom 55 = .ok (.aload_n 1, 1) := by decide +kernel
theorem dX7_takeFrom_56 : decode cX7_takeFrom 56 = .ok (.getfield 15, 3) := by decide +kernel
theorem dX7_takeFrom_59 : decode cX7_takeFrom 59 = .ok (.iconst 0, 1) := by decide +kernel
theorem dX7_takeFrom_60 : decode cX7_takeFrom 60 = .ok (.aload_n 0, 1) := by decide +kernel
theorem dX7_takeFrom_61 : decode cX7_takeFrom 61 = .ok (.getfield 15, 3) := by decide +kernel
theorem dX7_takeFrom_64 : decode cX7_takeFrom 64 = .ok (.iconst 0, 1) := by decide +kernel
theorem dX7_takeFrom_65 : decode cX7_takeFrom 65 = .ok (.bipush 8, 2) := by decide +kernel
theorem dX7_takeFrom_67 : decode cX7_takeFrom 67 = .ok (.invokestatic 46, 3) := by decide +kernel
theorem dX7_takeFrom_70 : decode cX7_takeFrom 70 = .ok (.aload_n 1, 1) := by decide +kernel
theorem dX7_takeFrom_71 : decode cX7_takeFrom 71 = .ok (.getfield 18, 3) := by decide +kernel
theorem dX7_takeFrom_74 : decode cX7_takeFrom 74 = .ok (.iconst 0, 1) := by decide +kernel
theorem dX7_takeFrom_75 : decode cX7_takeFrom 75 = .ok (.aload_n 0, 1) := by decide +kernel
theorem dX7_takeFrom_76 : decode cX7_takeFrom 76 = .ok (.getfield 18, 3) := by decide +kernel
theorem dX7_takeFrom_79 : decode cX7_takeFrom 79 = .ok (.iconst 0, 1) := by decide +kernel
theorem dX7_takeFrom_80 : decode cX7_takeFrom 80 = .ok (.bipush 6, 2) := by decide +kernel
theorem dX7_takeFrom_82 : decode cX7_takeFrom 82 = .ok (.invokestatic 46, 3) := by decide +kernel
theorem dX7_takeFrom_85 : decode cX7_takeFrom 85 = .ok (.aload_n 1, 1) := by decide +kernel
theorem dX7_takeFrom_86 : decode cX7_takeFrom 86 = .ok (.getfield 21, 3) := by decide +kernel
theorem dX7_takeFrom_89 : decode cX7_takeFrom 89 = .ok (.iconst 0, 1) := by decide +kernel
theorem dX7_takeFrom_90 : decode cX7_takeFrom 90 = .ok (.aload_n 0, 1) := by decide +kernel
theorem dX7_takeFrom_91 : decode cX7_takeFrom 91 = .ok (.getfield 21, 3) := by decide +kernel
theorem dX7_takeFrom_94 : decode cX7_takeFrom 94 = .ok (.iconst 0, 1) := by decide +kernel
theorem dX7_takeFrom_95 : decode cX7_takeFrom 95 = .ok (.bipush 6, 2) := by decide +kernel
theorem dX7_takeFrom_97 : decode cX7_takeFrom 97 = .ok (.invokestatic 46, 3) := by decide +kernel
theorem dX7_takeFrom_100 : decode cX7_takeFrom 100 = .ok (.aload_n 1, 1) := by decide +kernel
theorem dX7_takeFrom_101 : decode cX7_takeFrom 101 = .ok (.getfield 24, 3) := by decide +kernel
theorem dX7_takeFrom_104 : decode cX7_takeFrom 104 = .ok (.iconst 0, 1) := by decide +kernel
theorem dX7_takeFrom_105 : decode cX7_takeFrom 105 = .ok (.aload_n 0, 1) := by decide +kernel
theorem dX7_takeFrom_106 : decode cX7_takeFrom 106 = .ok (.getfield 24, 3) := by decide +kernel
theorem dX7_takeFrom_109 : decode cX7_takeFrom 109 = .ok (.iconst 0, 1) := by decide +kernel
theorem dX7_takeFrom_110 : decode cX7_takeFrom 110 = .ok (.bipush 6, 2) := by decide +kernel
theorem dX7_takeFrom_112 : decode cX7_takeFrom 112 = .ok (.invokestatic 46, 3) := by decide +kernel
theorem dX7_takeFrom_115 : decode cX7_takeFrom 115 = .ok (.aload_n 1, 1) := by decide +kernel
theorem dX7_takeFrom_116 : decode cX7_takeFrom 116 = .ok (.getfield 27, 3) := by decide +kernel
theorem dX7_takeFrom_119 : decode cX7_takeFrom 119 = .ok (.iconst 0, 1) := by decide +kernel
theorem dX7_takeFrom_120 : decode cX7_takeFrom 120 = .ok (.aload_n 0, 1) := by decide +kernel
theorem dX7_takeFrom_121 : decode cX7_takeFrom 121 = .ok (.getfield 27, 3) := by decide +kernel
theorem dX7_takeFrom_124 : decode cX7_takeFrom 124 = .ok (.iconst 0, 1) := by decide +kernel
theorem dX7_takeFrom_125 : decode cX7_takeFrom 125 = .ok (.bipush 6, 2) := by decide +kernel
theorem dX7_takeFrom_127 : decode cX7_takeFrom 127 = .ok (.invokestatic 46, 3) := by decide +kernel
theorem dX7_takeFrom_130 : decode cX7_takeFrom 130 = .ok (.return_, 1) := by decide +kernel
theorem dX7_addBay_0 : decode cX7_addBay 0 = .ok (.aload_n 0, 1) := by decide +kernel
theorem dX7_addBay_1 : decode cX7_addBay 1 = .ok (.getfield 30, 3) := by decide +kernel
theorem dX7_addBay_4 : decode cX7_addBay 4 = .ok (.bipush 8, 2) := by decide +kernel
theorem dX7_addBay_6 : decode cX7_addBay 6 = .ok (.if_icmp .ge 15, 3) := by decide +kernel
theorem dX7_addBay_9 : decode cX7_addBay 9 = .ok (.iload_n 1, 1) := by decide +kernel
theorem dX7_addBay_10 : decode cX7_addBay 10 = .ok (.bipush 99, 2) := by decide +kernel
theorem dX7_addBay_12 : decode cX7_addBay 12 = .ok (.if_icmp .gt 9, 3) := by decide +kernel
theorem dX7_addBay_15 : decode cX7_addBay 15 = .ok (.iload_n 2, 1) := by decide +kernel
theorem dX7_addBay_16 : decode cX7_addBay 16 = .ok (.bipush 20, 2) := by decide +kernel
theorem dX7_addBay_18 : decode cX7_addBay 18 = .ok (.if_icmp .le 5, 3) := by decide +kernel
theorem dX7_addBay_21 : decode cX7_addBay 21 = .ok (.iconst 0, 1) := by decide +kernel
theorem dX7_addBay_22 : decode cX7_addBay 22 = .ok (.ireturn, 1) := by decide +kernel
theorem dX7_addBay_23 : decode cX7_addBay 23 = .ok (.aload_n 0, 1) := by decide +kernel
theorem dX7_addBay_24 : decode cX7_addBay 24 = .ok (.getfield 9, 3) := by decide +kernel
theorem dX7_addBay_27 : decode cX7_addBay 27 = .ok (.aload_n 0, 1) := by decide +kernel
theorem dX7_addBay_28 : decode cX7_addBay 28 = .ok (.getfield 30, 3) := by decide +kernel
theorem dX7_addBay_31 : decode cX7_addBay 31 = .ok (.iload_n 1, 1) := by decide +kernel
theorem dX7_addBay_32 : decode cX7_addBay 32 = .ok (.iastore, 1) := by decide +kernel
theorem dX7_addBay_33 : decode cX7_addBay 33 = .ok (.aload_n 0, 1) := by decide +kernel
theorem dX7_addBay_34 : decode cX7_addBay 34 = .ok (.getfield 15, 3) := by decide +kernel
theorem dX7_addBay_37 : decode cX7_addBay 37 = .ok (.aload_n 0, 1) := by decide +kernel
theorem dX7_addBay_38 : decode cX7_addBay 38 = .ok (.getfield 30, 3) := by decide +kernel
theorem dX7_addBay_41 : decode cX7_addBay 41 = .ok (.iload_n 2, 1) := by decide +kernel
theorem dX7_addBay_42 : decode cX7_addBay 42 = .ok (.iastore, 1) := by decide +kernel
theorem dX7_addBay_43 : decode cX7_addBay 43 = .ok (.aload_n 0, 1) := by decide +kernel
theorem dX7_addBay_44 : decode cX7_addBay 44 = .ok (.dup, 1) := by decide +kernel
theorem dX7_addBay_45 : decode cX7_addBay 45 = .ok (.getfield 30, 3) := by decide +kernel
theorem dX7_addBay_48 : decode cX7_addBay 48 = .ok (.iconst 1, 1) := by decide +kernel
theorem dX7_addBay_49 : decode cX7_addBay 49 = .ok (.iadd, 1) := by decide +kernel
theorem dX7_addBay_50 : decode cX7_addBay 50 = .ok (.putfield 30, 3) := by decide +kernel
theorem dX7_addBay_53 : decode cX7_addBay 53 = .ok (.iconst 1, 1) := by decide +kernel
theorem dX7_addBay_54 : decode cX7_addBay 54 = .ok (.ireturn, 1) := by decide +kernel
theorem dX7_addButtress_0 : decode cX7_addButtress 0 = .ok (.iload_n 1, 1) := by decide +kernel
theorem dX7_addButtress_1 : decode cX7_addButtress 1 = .ok (.iconst 3, 1) := by decide +kernel
theorem dX7_addButtress_2 : decode cX7_addButtress 2 = .ok (.if_icmp .gt 39, 3) := by decide +kernel
theorem dX7_addButtress_5 : decode cX7_addButtress 5 = .ok (.iload_n 2, 1) := by decide +kernel
theorem dX7_addButtress_6 : decode cX7_addButtress 6 = .ok (.iconst 1, 1) := by decide +kernel
theorem dX7_addButtress_7 : decode cX7_addButtress 7 = .ok (.if_icmp .lt 34, 3) := by decide +kernel
theorem dX7_addButtress_10 : decode cX7_addButtress 10 = .ok (.iload_n 2, 1) := by decide +kernel
theorem dX7_addButtress_11 : decode cX7_addButtress 11 = .ok (.bipush 99, 2) := by decide +kernel
theorem dX7_addButtress_13 : decode cX7_addButtress 13 = .ok (.if_icmp .gt 28, 3) := by decide +kernel
theorem dX7_addButtress_16 : decode cX7_addButtress 16 = .ok (.aload_n 0, 1) := by decide +kernel
theorem dX7_addButtress_17 : decode cX7_addButtress 17 = .ok (.iload_n 3, 1) := by decide +kernel
theorem dX7_addButtress_18 : decode cX7_addButtress 18 = .ok (.invokevirtual 52, 3) := by decide +kernel
theorem dX7_addButtress_21 : decode cX7_addButtress 21 = .ok (.ifCond .eq 20, 3) := by decide +kernel
theorem dX7_addButtress_24 : decode cX7_addButtress 24 = .ok (.iload 4, 2) := by decide +kernel
theorem dX7_addButtress_26 : decode cX7_addButtress 26 = .ok (.iconst 1, 1) := by decide +kernel
theorem dX7_addButtress_27 : decode cX7_addButtress 27 = .ok (.if_icmp .lt 14, 3) := by decide +kernel
theorem dX7_addButtress_30 : decode cX7_addButtress 30 = .ok (.iload 4, 2) := by decide +kernel
theorem dX7_addButtress_32 : decode cX7_addButtress 32 = .ok (.bipush 30, 2) := by decide +kernel
theorem dX7_addButtress_34 : decode cX7_addButtress 34 = .ok (.if_icmp .gt 7, 3) := by decide +kernel
theorem dX7_addButtress_37 : decode cX7_addButtress 37 = .ok (.iconst 1, 1) := by decide +kernel
theorem dX7_addButtress_38 : decode cX7_addButtress 38 = .ok (.goto 4, 3) := by decide +kernel
theorem dX7_addButtress_41 : decode cX7_addButtress 41 = .ok (.iconst 0, 1) := by decide +kernel
theorem dX7_addButtress_42 : decode cX7_addButtress 42 = .ok (.istore 5, 2) := by decide +kernel
theorem dX7_addButtress_44 : decode cX7_addButtress 44 = .ok (.aload_n 0, 1) := by decide +kernel
theorem dX7_addButtress_45 : decode cX7_addButtress 45 = .ok (.getfield 34, 3) := by decide +kernel
theorem dX7_addButtress_48 : decode cX7_addButtress 48 = .ok (.bipush 6, 2) := by decide +kernel
theorem dX7_addButtress_50 : decode cX7_addButtress 50 = .ok (.if_icmp .ge 8, 3) := by decide +kernel
theorem dX7_addButtress_53 : decode cX7_addButtress 53 = .ok (.iload 5, 2) := by decide +kernel
theorem dX7_addButtress_55 : decode cX7_addButtress 55 = .ok (.ifCond .ne 5, 3) := by decide +kernel
theorem dX7_addButtress_58 : decode cX7_addButtress 58 = .ok (.iconst 0, 1) := by decide +kernel
theorem dX7_addButtress_59 : decode cX7_addButtress 59 = .ok (.ireturn, 1) := by decide +kernel
theorem dX7_addButtress_60 : decode cX7_addButtress 60 = .ok (.aload_n 0, 1) := by decide +kernel
theorem dX7_addButtress_61 : decode cX7_addButtress 61 = .ok (.getfield 18, 3) := by decide +kernel
theorem dX7_addButtress_64 : decode cX7_addButtress 64 = .ok (.aload_n 0, 1) := by decide +kernel
theorem dX7_addButtress_65 : decode cX7_addButtress 65 = .ok (.getfield 34, 3) := by decide +kernel
theorem dX7_addButtress_68 : decode cX7_addButtress 68 = .ok (.iload_n 1, 1) := by decide +kernel
theorem dX7_addButtress_69 : decode cX7_addButtress 69 = .ok (.iastore, 1) := by decide +kernel
theorem dX7_addButtress_70 : decode cX7_addButtress 70 = .ok (.aload_n 0, 1) := by decide +kernel
theorem dX7_addButtress_71 : decode cX7_addButtress 71 = .ok (.getfield 21, 3) := by decide +kernel
theorem dX7_addButtress_74 : decode cX7_addButtress 74 = .ok (.aload_n 0, 1) := by decide +kernel
theorem dX7_addButtress_75 : decode cX7_addButtress 75 = .ok (.getfield 34, 3) := by decide +kernel
theorem dX7_addButtress_78 : decode cX7_addButtress 78 = .ok (.iload_n 2, 1) := by decide +kernel
theorem dX7_addButtress_79 : decode cX7_addButtress 79 = .ok (.iastore, 1) := by decide +kernel
theorem dX7_addButtress_80 : decode cX7_addButtress 80 = .ok (.aload_n 0, 1) := by decide +kernel
theorem dX7_addButtress_81 : decode cX7_addButtress 81 = .ok (.getfield 24, 3) := by decide +kernel
theorem dX7_addButtress_84 : decode cX7_addButtress 84 = .ok (.aload_n 0, 1) := by decide +kernel
theorem dX7_addButtress_85 : decode cX7_addButtress 85 = .ok (.getfield 34, 3) := by decide +kernel
theorem dX7_addButtress_88 : decode cX7_addButtress 88 = .ok (.iload_n 3, 1) := by decide +kernel
theorem dX7_addButtress_89 : decode cX7_addButtress 89 = .ok (.iastore, 1) := by decide +kernel
theorem dX7_addButtress_90 : decode cX7_addButtress 90 = .ok (.aload_n 0, 1) := by decide +kernel
theorem dX7_addButtress_91 : decode cX7_addButtress 91 = .ok (.getfield 27, 3) := by decide +kernel
theorem dX7_addButtress_94 : decode cX7_addButtress 94 = .ok (.aload_n 0, 1) := by decide +kernel
theorem dX7_addButtress_95 : decode cX7_addButtress 95 = .ok (.getfield 34, 3) := by decide +kernel
theorem dX7_addButtress_98 : decode cX7_addButtress 98 = .ok (.iload 4, 2) := by decide +kernel
theorem dX7_addButtress_100 : decode cX7_addButtress 100 = .ok (.iastore, 1) := by decide +kernel
theorem dX7_addButtress_101 : decode cX7_addButtress 101 = .ok (.aload_n 0, 1) := by decide +kernel
theorem dX7_addButtress_102 : decode cX7_addButtress 102 = .ok (.dup, 1) := by decide +kernel
theorem dX7_addButtress_103 : decode cX7_addButtress 103 = .ok (.getfield 34, 3) := by decide +kernel
theorem dX7_addButtress_106 : decode cX7_addButtress 106 = .ok (.iconst 1, 1) := by decide +kernel
theorem dX7_addButtress_107 : decode cX7_addButtress 107 = .ok (.iadd, 1) := by decide +kernel
theorem dX7_addButtress_108 : decode cX7_addButtress 108 = .ok (.putfield 34, 3) := by decide +kernel
theorem dX7_addButtress_111 : decode cX7_addButtress 111 = .ok (.iconst 1, 1) := by decide +kernel
theorem dX7_addButtress_112 : decode cX7_addButtress 112 = .ok (.ireturn, 1) := by decide +kernel
theorem dX7_addCarts_0 : decode cX7_addCarts 0 = .ok (.aload_n 0, 1) := by decide +kernel
theorem dX7_addCarts_1 : decode cX7_addCarts 1 = .ok (.getfield 37, 3) := by decide +kernel
theorem dX7_addCarts_4 : decode cX7_addCarts 4 = .ok (.bipush 12, 2) := by decide +kernel
theorem dX7_addCarts_6 : decode cX7_addCarts 6 = .ok (.if_icmp .ge 8, 3) := by decide +kernel
theorem dX7_addCarts_9 : decode cX7_addCarts 9 = .ok (.iload_n 1, 1) := by decide +kernel
theorem dX7_addCarts_10 : decode cX7_addCarts 10 = .ok (.iconst 1, 1) := by decide +kernel
theorem dX7_addCarts_11 : decode cX7_addCarts 11 = .ok (.if_icmp .le 5, 3) := by decide +kernel
theorem dX7_addCarts_14 : decode cX7_addCarts 14 = .ok (.iconst 0, 1) := by decide +kernel
theorem dX7_addCarts_15 : decode cX7_addCarts 15 = .ok (.ireturn, 1) := by decide +kernel
theorem dX7_addCarts_16 : decode cX7_addCarts 16 = .ok (.aload_n 0, 1) := by decide +kernel
theorem dX7_addCarts_17 : decode cX7_addCarts 17 = .ok (.dup, 1) := by decide +kernel
theorem dX7_addCarts_18 : decode cX7_addCarts 18 = .ok (.getfield 40, 3) := by decide +kernel
theorem dX7_addCarts_21 : decode cX7_addCarts 21 = .ok (.iload_n 1, 1) := by decide +kernel
theorem dX7_addCarts_22 : decode cX7_addCarts 22 = .ok (.aload_n 0, 1) := by decide +kernel
theorem dX7_addCarts_23 : decode cX7_addCarts 23 = .ok (.getfield 37, 3) := by decide +kernel
theorem dX7_addCarts_26 : decode cX7_addCarts 26 = .ok (.ishl, 1) := by decide +kernel
theorem dX7_addCarts_27 : decode cX7_addCarts 27 = .ok (.ior, 1) := by decide +kernel
theorem dX7_addCarts_28 : decode cX7_addCarts 28 = .ok (.putfield 40, 3) := by decide +kernel
theorem dX7_addCarts_31 : decode cX7_addCarts 31 = .ok (.aload_n 0, 1) := by decide +kernel
theorem dX7_addCarts_32 : decode cX7_addCarts 32 = .ok (.dup, 1) := by decide +kernel
theorem dX7_addCarts_33 : decode cX7_addCarts 33 = .ok (.getfield 37, 3) := by decide +kernel
theorem dX7_addCarts_36 : decode cX7_addCarts 36 = .ok (.iconst 1, 1) := by decide +kernel
theorem dX7_addCarts_37 : decode cX7_addCarts 37 = .ok (.iadd, 1) := by decide +kernel
theorem dX7_addCarts_38 : decode cX7_addCarts 38 = .ok (.putfield 37, 3) := by decide +kernel
theorem dX7_addCarts_41 : decode cX7_addCarts 41 = .ok (.iconst 1, 1) := by decide +kernel
theorem dX7_addCarts_42 : decode cX7_addCarts 42 = .ok (.ireturn, 1) := by decide +kernel
theorem dX7_addDown_0 : decode cX7_addDown 0 = .ok (.aload_n 0, 1) := by decide +kernel
theorem dX7_addDown_1 : decode cX7_addDown 1 = .ok (.iload_n 1, 1) := by decide +kernel
theorem dX7_addDown_2 : decode cX7_addDown 2 = .ok (.invokevirtual 56, 3) := by decide +kernel
theorem dX7_addDown_5 : decode cX7_addDown 5 = .ok (.ifCond .ne 5, 3) := by decide +kernel
theorem dX7_addDown_8 : decode cX7_addDown 8 = .ok (.iconst 0, 1) := by decide +kernel
theorem dX7_addDown_9 : decode cX7_addDown 9 = .ok (.ireturn, 1) := by decide +kernel
theorem dX7_addDown_10 : decode cX7_addDown 10 = .ok (.aload_n 0, 1) := by decide +kernel
theorem dX7_addDown_11 : decode cX7_addDown 11 = .ok (.dup, 1) := by decide +kernel
theorem dX7_addDown_12 : decode cX7_addDown 12 = .ok (.getfield 43, 3) := by decide +kernel
theorem dX7_addDown_15 : decode cX7_addDown 15 = .ok (.iconst 1, 1) := by decide +kernel
theorem dX7_addDown_16 : decode cX7_addDown 16 = .ok (.iload_n 1, 1) := by decide +kernel
theorem dX7_addDown_17 : decode cX7_addDown 17 = .ok (.ishl, 1) := by decide +kernel
theorem dX7_addDown_18 : decode cX7_addDown 18 = .ok (.ior, 1) := by decide +kernel
theorem dX7_addDown_19 : decode cX7_addDown 19 = .ok (.putfield 43, 3) := by decide +kernel
theorem dX7_addDown_22 : decode cX7_addDown 22 = .ok (.iconst 1, 1) := by decide +kernel
theorem dX7_addDown_23 : decode cX7_addDown 23 = .ok (.ireturn, 1) := by decide +kernel
theorem dX7_hasBay_0 : decode cX7_hasBay 0 = .ok (.iload_n 1, 1) := by decide +kernel
theorem dX7_hasBay_1 : decode cX7_hasBay 1 = .ok (.ifCond .lt 21, 3) := by decide +kernel
theorem dX7_hasBay_4 : decode cX7_hasBay 4 = .ok (.iload_n 1, 1) := by decide +kernel
theorem dX7_hasBay_5 : decode cX7_hasBay 5 = .ok (.aload_n 0, 1) := by decide +kernel
theorem dX7_hasBay_6 : decode cX7_hasBay 6 = .ok (.getfield 30, 3) := by decide +kernel
theorem dX7_hasBay_9 : decode cX7_hasBay 9 = .ok (.if_icmp .ge 13, 3) := by decide +kernel
theorem dX7_hasBay_12 : decode cX7_hasBay 12 = .ok (.iload_n 1, 1) := by decide +kernel
theorem dX7_hasBay_13 : decode cX7_hasBay 13 = .ok (.bipush 8, 2) := by decide +kernel
theorem dX7_hasBay_15 : decode cX7_hasBay 15 = .ok (.if_icmp .ge 7, 3) := by decide +kernel
theorem dX7_hasBay_18 : decode cX7_hasBay 18 = .ok (.iconst 1, 1) := by decide +kernel
theorem dX7_hasBay_19 : decode cX7_hasBay 19 = .ok (.goto 4, 3) := by decide +kernel
theorem dX7_hasBay_22 : decode cX7_hasBay 22 = .ok (.iconst 0, 1) := by decide +kernel
theorem dX7_hasBay_23 : decode cX7_hasBay 23 = .ok (.ireturn, 1) := by decide +kernel
theorem dX7_hasButtress_0 : decode cX7_hasButtress 0 = .ok (.iload_n 1, 1) := by decide +kernel
theorem dX7_hasButtress_1 : decode cX7_hasButtress 1 = .ok (.ifCond .lt 21, 3) := by decide +kernel
theorem dX7_hasButtress_4 : decode cX7_hasButtress 4 = .ok (.iload_n 1, 1) := by decide +kernel
theorem dX7_hasButtress_5 : decode cX7_hasButtress 5 = .ok (.aload_n 0, 1) := by decide +kernel
theorem dX7_hasButtress_6 : decode cX7_hasButtress 6 = .ok (.getfield 34, 3) := by decide +kernel
theorem dX7_hasButtress_9 : decode cX7_hasButtress 9 = .ok (.if_icmp .ge 13, 3) := by decide +kernel
theorem dX7_hasButtress_12 : decode cX7_hasButtress 12 = .ok (.iload_n 1, 1) := by decide +kernel
theorem dX7_hasButtress_13 : decode cX7_hasButtress 13 = .ok (.bipush 6, 2) := by decide +kernel
theorem dX7_hasButtress_15 : decode cX7_hasButtress 15 = .ok (.if_icmp .ge 7, 3) := by decide +kernel
theorem dX7_hasButtress_18 : decode cX7_hasButtress 18 = .ok (.iconst 1, 1) := by decide +kernel
theorem dX7_hasButtress_19 : decode cX7_hasButtress 19 = .ok (.goto 4, 3) := by decide +kernel
theorem dX7_hasButtress_22 : decode cX7_hasButtress 22 = .ok (.iconst 0, 1) := by decide +kernel
theorem dX7_hasButtress_23 : decode cX7_hasButtress 23 = .ok (.ireturn, 1) := by decide +kernel
theorem dX7_hasCarts_0 : decode cX7_hasCarts 0 = .ok (.aload_n 0, 1) := by decide +kernel
theorem dX7_hasCarts_1 : decode cX7_hasCarts 1 = .ok (.getfield 37, 3) := by decide +kernel
theorem dX7_hasCarts_4 : decode cX7_hasCarts 4 = .ok (.ifCond .le 25, 3) := by decide +kernel
theorem dX7_hasCarts_7 : decode cX7_hasCarts 7 = .ok (.aload_n 0, 1) := by decide +kernel
theorem dX7_hasCarts_8 : decode cX7_hasCarts 8 = .ok (.getfield 40, 3) := by decide +kernel
theorem dX7_hasCarts_11 : decode cX7_hasCarts 11 = .ok (.iload_n 1, 1) := by decide +kernel
theorem dX7_hasCarts_12 : decode cX7_hasCarts 12 = .ok (.aload_n 0, 1) := by decide +kernel
theorem dX7_hasCarts_13 : decode cX7_hasCarts 13 = .ok (.getfield 37, 3) := by decide +kernel
theorem dX7_hasCarts_16 : decode cX7_hasCarts 16 = .ok (.invokestatic 59, 3) := by decide +kernel
theorem dX7_hasCarts_19 : decode cX7_hasCarts 19 = .ok (.invokestatic 65, 3) := by decide +kernel
theorem dX7_hasCarts_22 : decode cX7_hasCarts 22 = .ok (.ifCond .eq 7, 3) := by decide +kernel
theorem dX7_hasCarts_25 : decode cX7_hasCarts 25 = .ok (.iconst 1, 1) := by decide +kernel
theorem dX7_hasCarts_26 : decode cX7_hasCarts 26 = .ok (.goto 4, 3) := by decide +kernel
theorem dX7_hasCarts_29 : decode cX7_hasCarts 29 = .ok (.iconst 0, 1) := by decide +kernel
theorem dX7_hasCarts_30 : decode cX7_hasCarts 30 = .ok (.ireturn, 1) := by decide +kernel
theorem dX7_allBays_0 : decode cX7_allBays 0 = .ok (.iconst 1, 1) := by decide +kernel
theorem dX7_allBays_1 : decode cX7_allBays 1 = .ok (.aload_n 0, 1) := by decide +kernel
theorem dX7_allBays_2 : decode cX7_allBays 2 = .ok (.getfield 30, 3) := by decide +kernel
theorem dX7_allBays_5 : decode cX7_allBays 5 = .ok (.ishl, 1) := by decide +kernel
theorem dX7_allBays_6 : decode cX7_allBays 6 = .ok (.iconst 1, 1) := by decide +kernel
theorem dX7_allBays_7 : decode cX7_allBays 7 = .ok (.isub, 1) := by decide +kernel
theorem dX7_allBays_8 : decode cX7_allBays 8 = .ok (.ireturn, 1) := by decide +kernel
theorem dX7_allButtresses_0 : decode cX7_allButtresses 0 = .ok (.iconst 1, 1) := by decide +kernel
theorem dX7_allButtresses_1 : decode cX7_allButtresses 1 = .ok (.aload_n 0, 1) := by decide +kernel
theorem dX7_allButtresses_2 : decode cX7_allButtresses 2 = .ok (.getfield 34, 3) := by decide +kernel
theorem dX7_allButtresses_5 : decode cX7_allButtresses 5 = .ok (.ishl, 1) := by decide +kernel
theorem dX7_allButtresses_6 : decode cX7_allButtresses 6 = .ok (.iconst 1, 1) := by decide +kernel
theorem dX7_allButtresses_7 : decode cX7_allButtresses 7 = .ok (.isub, 1) := by decide +kernel
theorem dX7_allButtresses_8 : decode cX7_allButtresses 8 = .ok (.ireturn, 1) := by decide +kernel
theorem dJ6_numberOfTrailingZeros_0f7a4_0 : decode cJ6_numberOfTrailingZeros_0f7a4 0 = .ok (.iload_n 0, 1) := by decide +kernel
theorem dJ6_numberOfTrailingZeros_0f7a4_1 : decode cJ6_numberOfTrailingZeros_0f7a4 1 = .ok (.iconst (-1), 1) := by decide +kernel
theorem dJ6_numberOfTrailingZeros_0f7a4_2 : decode cJ6_numberOfTrailingZeros_0f7a4 2 = .ok (.ixor, 1) := by decide +kernel
theorem dJ6_numberOfTrailingZeros_0f7a4_3 : decode cJ6_numberOfTrailingZeros_0f7a4 3 = .ok (.iload_n 0, 1) := by decide +kernel
theorem dJ6_numberOfTrailingZeros_0f7a4_4 : decode cJ6_numberOfTrailingZeros_0f7a4 4 = .ok (.iconst 1, 1) := by decide +kernel
theorem dJ6_numberOfTrailingZeros_0f7a4_5 : decode cJ6_numberOfTrailingZeros_0f7a4 5 = .ok (.isub, 1) := by decide +kernel
theorem dJ6_numberOfTrailingZeros_0f7a4_6 : decode cJ6_numberOfTrailingZeros_0f7a4 6 = .ok (.iand, 1) := by decide +kernel
theorem dJ6_numberOfTrailingZeros_0f7a4_7 : decode cJ6_numberOfTrailingZeros_0f7a4 7 = .ok (.istore_n 0, 1) := by decide +kernel
theorem dJ6_numberOfTrailingZeros_0f7a4_8 : decode cJ6_numberOfTrailingZeros_0f7a4 8 = .ok (.iload_n 0, 1) := by decide +kernel
theorem dJ6_numberOfTrailingZeros_0f7a4_9 : decode cJ6_numberOfTrailingZeros_0f7a4 9 = .ok (.ifCond .gt 8, 3) := by decide +kernel
theorem dJ6_numberOfTrailingZeros_0f7a4_12 : decode cJ6_numberOfTrailingZeros_0f7a4 12 = .ok (.iload_n 0, 1) := by decide +kernel
theorem dJ6_numberOfTrailingZeros_0f7a4_13 : decode cJ6_numberOfTrailingZeros_0f7a4 13 = .ok (.bipush 32, 2) := by decide +kernel
theorem dJ6_numberOfTrailingZeros_0f7a4_15 : decode cJ6_numberOfTrailingZeros_0f7a4 15 = .ok (.iand, 1) := by decide +kernel
theorem dJ6_numberOfTrailingZeros_0f7a4_16 : decode cJ6_numberOfTrailingZeros_0f7a4 16 = .ok (.ireturn, 1) := by decide +kernel
theorem dJ6_numberOfTrailingZeros_0f7a4_17 : decode cJ6_numberOfTrailingZeros_0f7a4 17 = .ok (.iconst 1, 1) := by decide +kernel
theorem dJ6_numberOfTrailingZeros_0f7a4_18 : decode cJ6_numberOfTrailingZeros_0f7a4 18 = .ok (.istore_n 1, 1) := by decide +kernel
theorem dJ6_numberOfTrailingZeros_0f7a4_19 : decode cJ6_numberOfTrailingZeros_0f7a4 19 = .ok (.iload_n 0, 1) := by decide +kernel
theorem dJ6_numberOfTrailingZeros_0f7a4_20 : decode cJ6_numberOfTrailingZeros_0f7a4 20 = .ok (.ldc_w 264, 3) := by decide +kernel
theorem dJ6_numberOfTrailingZeros_0f7a4_23 : decode cJ6_numberOfTrailingZeros_0f7a4 23 = .ok (.if_icmp .le 11, 3) := by decide +kernel
theorem dJ6_numberOfTrailingZeros_0f7a4_26 : decode cJ6_numberOfTrailingZeros_0f7a4 26 = .ok (.iinc 1 16, 3) := by decide +kernel
theorem dJ6_numberOfTrailingZeros_0f7a4_29 : decode cJ6_numberOfTrailingZeros_0f7a4 29 = .ok (.iload_n 0, 1) := by decide +kernel
theorem dJ6_numberOfTrailingZeros_0f7a4_30 : decode cJ6_numberOfTrailingZeros_0f7a4 30 = .ok (.bipush 16, 2) := by decide +kernel
theorem dJ6_numberOfTrailingZeros_0f7a4_32 : decode cJ6_numberOfTrailingZeros_0f7a4 32 = .ok (.iushr, 1) := by decide +kernel
theorem dJ6_numberOfTrailingZeros_0f7a4_33 : decode cJ6_numberOfTrailingZeros_0f7a4 33 = .ok (.istore_n 0, 1) := by decide +kernel
theorem dJ6_numberOfTrailingZeros_0f7a4_34 : decode cJ6_numberOfTrailingZeros_0f7a4 34 = .ok (.iload_n 0, 1) := by decide +kernel
theorem dJ6_numberOfTrailingZeros_0f7a4_35 : decode cJ6_numberOfTrailingZeros_0f7a4 35 = .ok (.sipush 256, 3) := by decide +kernel
theorem dJ6_numberOfTrailingZeros_0f7a4_38 : decode cJ6_numberOfTrailingZeros_0f7a4 38 = .ok (.if_icmp .le 11, 3) := by decide +kernel
theorem dJ6_numberOfTrailingZeros_0f7a4_41 : decode cJ6_numberOfTrailingZeros_0f7a4 41 = .ok (.iinc 1 8, 3) := by decide +kernel
theorem dJ6_numberOfTrailingZeros_0f7a4_44 : decode cJ6_numberOfTrailingZeros_0f7a4 44 = .ok (.iload_n 0, 1) := by decide +kernel
theorem dJ6_numberOfTrailingZeros_0f7a4_45 : decode cJ6_numberOfTrailingZeros_0f7a4 45 = .ok (.bipush 8, 2) := by decide +kernel
theorem dJ6_numberOfTrailingZeros_0f7a4_47 : decode cJ6_numberOfTrailingZeros_0f7a4 47 = .ok (.iushr, 1) := by decide +kernel
theorem dJ6_numberOfTrailingZeros_0f7a4_48 : decode cJ6_numberOfTrailingZeros_0f7a4 48 = .ok (.istore_n 0, 1) := by decide +kernel
theorem dJ6_numberOfTrailingZeros_0f7a4_49 : decode cJ6_numberOfTrailingZeros_0f7a4 49 = .ok (.iload_n 0, 1) := by decide +kernel
theorem dJ6_numberOfTrailingZeros_0f7a4_50 : decode cJ6_numberOfTrailingZeros_0f7a4 50 = .ok (.bipush 16, 2) := by decide +kernel
theorem dJ6_numberOfTrailingZeros_0f7a4_52 : decode cJ6_numberOfTrailingZeros_0f7a4 52 = .ok (.if_icmp .le 10, 3) := by decide +kernel
theorem dJ6_numberOfTrailingZeros_0f7a4_55 : decode cJ6_numberOfTrailingZeros_0f7a4 55 = .ok (.iinc 1 4, 3) := by decide +kernel
theorem dJ6_numberOfTrailingZeros_0f7a4_58 : decode cJ6_numberOfTrailingZeros_0f7a4 58 = .ok (.iload_n 0, 1) := by decide +kernel
theorem dJ6_numberOfTrailingZeros_0f7a4_59 : decode cJ6_numberOfTrailingZeros_0f7a4 59 = .ok (.iconst 4, 1) := by decide +kernel
theorem dJ6_numberOfTrailingZeros_0f7a4_60 : decode cJ6_numberOfTrailingZeros_0f7a4 60 = .ok (.iushr, 1) := by decide +kernel
theorem dJ6_numberOfTrailingZeros_0f7a4_61 : decode cJ6_numberOfTrailingZeros_0f7a4 61 = .ok (.istore_n 0, 1) := by decide +kernel
theorem dJ6_numberOfTrailingZeros_0f7a4_62 : decode cJ6_numberOfTrailingZeros_0f7a4 62 = .ok (.iload_n 0, 1) := by decide +kernel
theorem dJ6_numberOfTrailingZeros_0f7a4_63 : decode cJ6_numberOfTrailingZeros_0f7a4 63 = .ok (.iconst 4, 1) := by decide +kernel
theorem dJ6_numberOfTrailingZeros_0f7a4_64 : decode cJ6_numberOfTrailingZeros_0f7a4 64 = .ok (.if_icmp .le 10, 3) := by decide +kernel
theorem dJ6_numberOfTrailingZeros_0f7a4_67 : decode cJ6_numberOfTrailingZeros_0f7a4 67 = .ok (.iinc 1 2, 3) := by decide +kernel
theorem dJ6_numberOfTrailingZeros_0f7a4_70 : decode cJ6_numberOfTrailingZeros_0f7a4 70 = .ok (.iload_n 0, 1) := by decide +kernel
theorem dJ6_numberOfTrailingZeros_0f7a4_71 : decode cJ6_numberOfTrailingZeros_0f7a4 71 = .ok (.iconst 2, 1) := by decide +kernel
theorem dJ6_numberOfTrailingZeros_0f7a4_72 : decode cJ6_numberOfTrailingZeros_0f7a4 72 = .ok (.iushr, 1) := by decide +kernel
theorem dJ6_numberOfTrailingZeros_0f7a4_73 : decode cJ6_numberOfTrailingZeros_0f7a4 73 = .ok (.istore_n 0, 1) := by decide +kernel
theorem dJ6_numberOfTrailingZeros_0f7a4_74 : decode cJ6_numberOfTrailingZeros_0f7a4 74 = .ok (.iload_n 1, 1) := by decide +kernel
theorem dJ6_numberOfTrailingZeros_0f7a4_75 : decode cJ6_numberOfTrailingZeros_0f7a4 75 = .ok (.iload_n 0, 1) := by decide +kernel
theorem dJ6_numberOfTrailingZeros_0f7a4_76 : decode cJ6_numberOfTrailingZeros_0f7a4 76 = .ok (.iconst 1, 1) := by decide +kernel
theorem dJ6_numberOfTrailingZeros_0f7a4_77 : decode cJ6_numberOfTrailingZeros_0f7a4 77 = .ok (.iushr, 1) := by decide +kernel
theorem dJ6_numberOfTrailingZeros_0f7a4_78 : decode cJ6_numberOfTrailingZeros_0f7a4 78 = .ok (.iadd, 1) := by decide +kernel
theorem dJ6_numberOfTrailingZeros_0f7a4_79 : decode cJ6_numberOfTrailingZeros_0f7a4 79 = .ok (.ireturn, 1) := by decide +kernel
theorem dJ6_bitCount_0f7a4_0 : decode cJ6_bitCount_0f7a4 0 = .ok (.iload_n 0, 1) := by decide +kernel
theorem dJ6_bitCount_0f7a4_1 : decode cJ6_bitCount_0f7a4 1 = .ok (.iload_n 0, 1) := by decide +kernel
theorem dJ6_bitCount_0f7a4_2 : decode cJ6_bitCount_0f7a4 2 = .ok (.iconst 1, 1) := by decide +kernel
theorem dJ6_bitCount_0f7a4_3 : decode cJ6_bitCount_0f7a4 3 = .ok (.iushr, 1) := by decide +kernel
theorem dJ6_bitCount_0f7a4_4 : decode cJ6_bitCount_0f7a4 4 = .ok (.ldc_w 265, 3) := by decide +kernel
theorem dJ6_bitCount_0f7a4_7 : decode cJ6_bitCount_0f7a4 7 = .ok (.iand, 1) := by decide +kernel
theorem dJ6_bitCount_0f7a4_8 : decode cJ6_bitCount_0f7a4 8 = .ok (.isub, 1) := by decide +kernel
theorem dJ6_bitCount_0f7a4_9 : decode cJ6_bitCount_0f7a4 9 = .ok (.istore_n 0, 1) := by decide +kernel
theorem dJ6_bitCount_0f7a4_10 : decode cJ6_bitCount_0f7a4 10 = .ok (.iload_n 0, 1) := by decide +kernel
theorem dJ6_bitCount_0f7a4_11 : decode cJ6_bitCount_0f7a4 11 = .ok (.ldc_w 266, 3) := by decide +kernel
theorem dJ6_bitCount_0f7a4_14 : decode cJ6_bitCount_0f7a4 14 = .ok (.iand, 1) := by decide +kernel
theorem dJ6_bitCount_0f7a4_15 : decode cJ6_bitCount_0f7a4 15 = .ok (.iload_n 0, 1) := by decide +kernel
theorem dJ6_bitCount_0f7a4_16 : decode cJ6_bitCount_0f7a4 16 = .ok (.iconst 2, 1) := by decide +kernel
theorem dJ6_bitCount_0f7a4_17 : decode cJ6_bitCount_0f7a4 17 = .ok (.iushr, 1) := by decide +kernel
theorem dJ6_bitCount_0f7a4_18 : decode cJ6_bitCount_0f7a4 18 = .ok (.ldc_w 266, 3) := by decide +kernel
theorem dJ6_bitCount_0f7a4_21 : decode cJ6_bitCount_0f7a4 21 = .ok (.iand, 1) := by decide +kernel
theorem dJ6_bitCount_0f7a4_22 : decode cJ6_bitCount_0f7a4 22 = .ok (.iadd, 1) := by decide +kernel
theorem dJ6_bitCount_0f7a4_23 : decode cJ6_bitCount_0f7a4 23 = .ok (.istore_n 0, 1) := by decide +kernel
theorem dJ6_bitCount_0f7a4_24 : decode cJ6_bitCount_0f7a4 24 = .ok (.iload_n 0, 1) := by decide +kernel
theorem dJ6_bitCount_0f7a4_25 : decode cJ6_bitCount_0f7a4 25 = .ok (.iload_n 0, 1) := by decide +kernel
theorem dJ6_bitCount_0f7a4_26 : decode cJ6_bitCount_0f7a4 26 = .ok (.iconst 4, 1) := by decide +kernel
theorem dJ6_bitCount_0f7a4_27 : decode cJ6_bitCount_0f7a4 27 = .ok (.iushr, 1) := by decide +kernel
theorem dJ6_bitCount_0f7a4_28 : decode cJ6_bitCount_0f7a4 28 = .ok (.iadd, 1) := by decide +kernel
theorem dJ6_bitCount_0f7a4_29 : decode cJ6_bitCount_0f7a4 29 = .ok (.ldc_w 267, 3) := by decide +kernel
theorem dJ6_bitCount_0f7a4_32 : decode cJ6_bitCount_0f7a4 32 = .ok (.iand, 1) := by decide +kernel
theorem dJ6_bitCount_0f7a4_33 : decode cJ6_bitCount_0f7a4 33 = .ok (.istore_n 0, 1) := by decide +kernel
theorem dJ6_bitCount_0f7a4_34 : decode cJ6_bitCount_0f7a4 34 = .ok (.iload_n 0, 1) := by decide +kernel
theorem dJ6_bitCount_0f7a4_35 : decode cJ6_bitCount_0f7a4 35 = .ok (.iload_n 0, 1) := by decide +kernel
theorem dJ6_bitCount_0f7a4_36 : decode cJ6_bitCount_0f7a4 36 = .ok (.bipush 8, 2) := by decide +kernel
theorem dJ6_bitCount_0f7a4_38 : decode cJ6_bitCount_0f7a4 38 = .ok (.iushr, 1) := by decide +kernel
theorem dJ6_bitCount_0f7a4_39 : decode cJ6_bitCount_0f7a4 39 = .ok (.iadd, 1) := by decide +kernel
theorem dJ6_bitCount_0f7a4_40 : decode cJ6_bitCount_0f7a4 40 = .ok (.istore_n 0, 1) := by decide +kernel
theorem dJ6_bitCount_0f7a4_41 : decode cJ6_bitCount_0f7a4 41 = .ok (.iload_n 0, 1) := by decide +kernel
theorem dJ6_bitCount_0f7a4_42 : decode cJ6_bitCount_0f7a4 42 = .ok (.iload_n 0, 1) := by decide +kernel
theorem dJ6_bitCount_0f7a4_43 : decode cJ6_bitCount_0f7a4 43 = .ok (.bipush 16, 2) := by decide +kernel
theorem dJ6_bitCount_0f7a4_45 : decode cJ6_bitCount_0f7a4 45 = .ok (.iushr, 1) := by decide +kernel
theorem dJ6_bitCount_0f7a4_46 : decode cJ6_bitCount_0f7a4 46 = .ok (.iadd, 1) := by decide +kernel
theorem dJ6_bitCount_0f7a4_47 : decode cJ6_bitCount_0f7a4 47 = .ok (.istore_n 0, 1) := by decide +kernel
theorem dJ6_bitCount_0f7a4_48 : decode cJ6_bitCount_0f7a4 48 = .ok (.iload_n 0, 1) := by decide +kernel
theorem dJ6_bitCount_0f7a4_49 : decode cJ6_bitCount_0f7a4 49 = .ok (.bipush 63, 2) := by decide +kernel
theorem dJ6_bitCount_0f7a4_51 : decode cJ6_bitCount_0f7a4 51 = .ok (.iand, 1) := by decide +kernel
theorem dJ6_bitCount_0f7a4_52 : decode cJ6_bitCount_0f7a4 52 = .ok (.ireturn, 1) := by decide +kernel
theorem dJ9_floorMod_7cf53_0 : decode cJ9_floorMod_7cf53 0 = .ok (.iload_n 0, 1) := by decide +kernel
theorem dJ9_floorMod_7cf53_1 : decode cJ9_floorMod_7cf53 1 = .ok (.iload_n 1, 1) := by decide +kernel
theorem dJ9_floorMod_7cf53_2 : decode cJ9_floorMod_7cf53 2 = .ok (.irem, 1) := by decide +kernel
theorem dJ9_floorMod_7cf53_3 : decode cJ9_floorMod_7cf53 3 = .ok (.istore_n 2, 1) := by decide +kernel
theorem dJ9_floorMod_7cf53_4 : decode cJ9_floorMod_7cf53 4 = .ok (.iload_n 0, 1) := by decide +kernel
theorem dJ9_floorMod_7cf53_5 : decode cJ9_floorMod_7cf53 5 = .ok (.iload_n 1, 1) := by decide +kernel
theorem dJ9_floorMod_7cf53_6 : decode cJ9_floorMod_7cf53 6 = .ok (.ixor, 1) := by decide +kernel
theorem dJ9_floorMod_7cf53_7 : decode cJ9_floorMod_7cf53 7 = .ok (.ifCond .ge 11, 3) := by decide +kernel
theorem dJ9_floorMod_7cf53_10 : decode cJ9_floorMod_7cf53 10 = .ok (.iload_n 2, 1) := by decide +kernel
theorem dJ9_floorMod_7cf53_11 : decode cJ9_floorMod_7cf53 11 = .ok (.ifCond .eq 7, 3) := by decide +kernel
theorem dJ9_floorMod_7cf53_14 : decode cJ9_floorMod_7cf53 14 = .ok (.iload_n 2, 1) := by decide +kernel
theorem dJ9_floorMod_7cf53_15 : decode cJ9_floorMod_7cf53 15 = .ok (.iload_n 1, 1) := by decide +kernel
theorem dJ9_floorMod_7cf53_16 : decode cJ9_floorMod_7cf53 16 = .ok (.iadd, 1) := by decide +kernel
theorem dJ9_floorMod_7cf53_17 : decode cJ9_floorMod_7cf53 17 = .ok (.ireturn, 1) := by decide +kernel
theorem dJ9_floorMod_7cf53_18 : decode cJ9_floorMod_7cf53 18 = .ok (.iload_n 2, 1) := by decide +kernel
theorem dJ9_floorMod_7cf53_19 : decode cJ9_floorMod_7cf53 19 = .ok (.ireturn, 1) := by decide +kernel
theorem dJ9_abs_0f7a4_0 : decode cJ9_abs_0f7a4 0 = .ok (.iload_n 0, 1) := by decide +kernel
theorem dJ9_abs_0f7a4_1 : decode cJ9_abs_0f7a4 1 = .ok (.ifCond .ge 8, 3) := by decide +kernel
theorem dJ9_abs_0f7a4_4 : decode cJ9_abs_0f7a4 4 = .ok (.iload_n 0, 1) := by decide +kernel
theorem dJ9_abs_0f7a4_5 : decode cJ9_abs_0f7a4 5 = .ok (.ineg, 1) := by decide +kernel
theorem dJ9_abs_0f7a4_6 : decode cJ9_abs_0f7a4 6 = .ok (.goto 4, 3) := by decide +kernel
theorem dJ9_abs_0f7a4_9 : decode cJ9_abs_0f7a4 9 = .ok (.iload_n 0, 1) := by decide +kernel
theorem dJ9_abs_0f7a4_10 : decode cJ9_abs_0f7a4 10 = .ok (.ireturn, 1) := by decide +kernel
theorem dJ9_max_7cf53_0 : decode cJ9_max_7cf53 0 = .ok (.iload_n 0, 1) := by decide +kernel
theorem dJ9_max_7cf53_1 : decode cJ9_max_7cf53 1 = .ok (.iload_n 1, 1) := by decide +kernel
theorem dJ9_max_7cf53_2 : decode cJ9_max_7cf53 2 = .ok (.if_icmp .lt 7, 3) := by decide +kernel
theorem dJ9_max_7cf53_5 : decode cJ9_max_7cf53 5 = .ok (.iload_n 0, 1) := by decide +kernel
theorem dJ9_max_7cf53_6 : decode cJ9_max_7cf53 6 = .ok (.goto 4, 3) := by decide +kernel
theorem dJ9_max_7cf53_9 : decode cJ9_max_7cf53 9 = .ok (.iload_n 1, 1) := by decide +kernel
theorem dJ9_max_7cf53_10 : decode cJ9_max_7cf53 10 = .ok (.ireturn, 1) := by decide +kernel
theorem dJ9_min_7cf53_0 : decode cJ9_min_7cf53 0 = .ok (.iload_n 0, 1) := by decide +kernel
theorem dJ9_min_7cf53_1 : decode cJ9_min_7cf53 1 = .ok (.iload_n 1, 1) := by decide +kernel
theorem dJ9_min_7cf53_2 : decode cJ9_min_7cf53 2 = .ok (.if_icmp .gt 7, 3) := by decide +kernel
theorem dJ9_min_7cf53_5 : decode cJ9_min_7cf53 5 = .ok (.iload_n 0, 1) := by decide +kernel
theorem dJ9_min_7cf53_6 : decode cJ9_min_7cf53 6 = .ok (.goto 4, 3) := by decide +kernel
theorem dJ9_min_7cf53_9 : decode cJ9_min_7cf53 9 = .ok (.iload_n 1, 1) := by decide +kernel
theorem dJ9_min_7cf53_10 : decode cJ9_min_7cf53 10 = .ok (.ireturn, 1) := by decide +kernel
end
section
theorem dX8_init_0 : decode cX8_init 0 = .ok (.aload_n 0, 1) := by decide +kernel
theorem dX8_init_1 : decode cX8_init 1 = .ok (.invokespecial 1, 3) := by decide +kernel
theorem dX8_init_4 : decode cX8_init 4 = .ok (.aload_n 0, 1) := by decide +kernel
theorem dX8_init_5 : decode cX8_init 5 = .ok (.new 7, 3) := by decide +kernel
theorem dX8_init_8 : decode cX8_init 8 = .ok (.dup, 1) := by decide +kernel
theorem dX8_init_9 : decode cX8_init 9 = .ok (.invokespecial 9, 3) := by decide +kernel
theorem dX8_init_12 : decode cX8_init 12 = .ok (.putfield 10, 3) := by decide +kernel
theorem dX8_init_15 : decode cX8_init 15 = .ok (.aload_n 0, 1) := by decide +kernel
theorem dX8_init_16 : decode cX8_init 16 = .ok (.new 16, 3) := by decide +kernel
theorem dX8_init_19 : decode cX8_init 19 = .ok (.dup, 1) := by decide +kernel
theorem dX8_init_20 : decode cX8_init 20 = .ok (.invokespecial 18, 3) := by decide +kernel
theorem dX8_init_23 : decode cX8_init 23 = .ok (.putfield 19, 3) := by decide +kernel
theorem dX8_init_26 : decode cX8_init 26 = .ok (.aload_n 0, 1) := by decide +kernel
theorem dX8_init_27 : decode cX8_init 27 = .ok (.new 23, 3) := by decide +kernel
theorem dX8_init_30 : decode cX8_init 30 = .ok (.dup, 1) := by decide +kernel
theorem dX8_init_31 : decode cX8_init 31 = .ok (.invokespecial 25, 3) := by decide +kernel
theorem dX8_init_34 : decode cX8_init 34 = .ok (.putfield 26, 3) := by decide +kernel
theorem dX8_init_37 : decode cX8_init 37 = .ok (.aload_n 0, 1) := by decide +kernel
theorem dX8_init_38 : decode cX8_init 38 = .ok (.new 30, 3) := by decide +kernel
theorem dX8_init_41 : decode cX8_init 41 = .ok (.dup, 1) := by decide +kernel
theorem dX8_init_42 : decode cX8_init 42 = .ok (.invokespecial 32, 3) := by decide +kernel
theorem dX8_init_45 : decode cX8_init 45 = .ok (.putfield 33, 3) := by decide +kernel
theorem dX8_init_48 : decode cX8_init 48 = .ok (.aload_n 0, 1) := by decide +kernel
theorem dX8_init_49 : decode cX8_init 49 = .ok (.new 37, 3) := by decide +kernel
theorem dX8_init_52 : decode cX8_init 52 = .ok (.dup, 1) := by decide +kernel
theorem dX8_init_53 : decode cX8_init 53 = .ok (.invokespecial 39, 3) := by decide +kernel
theorem dX8_init_56 : decode cX8_init 56 = .ok (.putfield 40, 3) := by decide +kernel
theorem dX8_init_59 : decode cX8_init 59 = .ok (.aload_n 0, 1) := by decide +kernel
theorem dX8_init_60 : decode cX8_init 60 = .ok (.new 44, 3) := by decide +kernel
theorem dX8_init_63 : decode cX8_init 63 = .ok (.dup, 1) := by decide +kernel
theorem dX8_init_64 : decode cX8_init 64 = .ok (.invokespecial 46, 3) := by decide +kernel
theorem dX8_init_67 : decode cX8_init 67 = .ok (.putfield 47, 3) := by decide +kernel
theorem dX8_init_70 : decode cX8_init 70 = .ok (.aload_n 0, 1) := by decide +kernel
theorem dX8_init_71 : decode cX8_init 71 = .ok (.new 51, 3) := by decide +kernel
theorem dX8_init_74 : decode cX8_init 74 = .ok (.dup, 1) := by decide +kernel
theorem dX8_init_75 : decode cX8_init 75 = .ok (.invokespecial 53, 3) := by decide +kernel
theorem dX8_init_78 : decode cX8_init 78 = .ok (.putfield 54, 3) := by decide +kernel
theorem dX8_init_81 : decode cX8_init 81 = .ok (.aload_n 0, 1) := by decide +kernel
theorem dX8_init_82 : decode cX8_init 82 = .ok (.iconst 2, 1) := by decide +kernel
theorem dX8_init_83 : decode cX8_init 83 = .ok (.anewarray 44, 3) := by decide +kernel
theorem dX8_init_86 : decode cX8_init 86 = .ok (.putfield 58, 3) := by decide +kernel
theorem dX8_init_89 : decode cX8_init 89 = .ok (.aload_n 0, 1) := by decide +kernel
theorem dX8_init_90 : decode cX8_init 90 = .ok (.new 62, 3) := by decide +kernel
theorem dX8_init_93 : decode cX8_init 93 = .ok (.dup, 1) := by decide +kernel
theorem dX8_init_94 : decode cX8_init 94 = .ok (.invokespecial 64, 3) := by decide +kernel
theorem dX8_init_97 : decode cX8_init 97 = .ok (.putfield 65, 3) := by decide +kernel
theorem dX8_init_100 : decode cX8_init 100 = .ok (.aload_n 0, 1) := by decide +kernel
theorem dX8_init_101 : decode cX8_init 101 = .ok (.new 62, 3) := by decide +kernel
theorem dX8_init_104 : decode cX8_init 104 = .ok (.dup, 1) := by decide +kernel
theorem dX8_init_105 : decode cX8_init 105 = .ok (.invokespecial 64, 3) := by decide +kernel
theorem dX8_init_108 : decode cX8_init 108 = .ok (.putfield 69, 3) := by decide +kernel
theorem dX8_init_111 : decode cX8_init 111 = .ok (.iconst 0, 1) := by decide +kernel
theorem dX8_init_112 : decode cX8_init 112 = .ok (.istore_n 1, 1) := by decide +kernel
theorem dX8_init_113 : decode cX8_init 113 = .ok (.iload_n 1, 1) := by decide +kernel
theorem dX8_init_114 : decode cX8_init 114 = .ok (.iconst 2, 1) := by decide +kernel
theorem dX8_init_115 : decode cX8_init 115 = .ok (.if_icmp .ge 22, 3) := by decide +kernel
theorem dX8_init_118 : decode cX8_init 118 = .ok (.aload_n 0, 1) := by decide +kernel
theorem dX8_init_119 : decode cX8_init 119 = .ok (.getfield 58, 3) := by decide +kernel
theorem dX8_init_122 : decode cX8_init 122 = .ok (.iload_n 1, 1) := by decide +kernel
theorem dX8_init_123 : decode cX8_init 123 = .ok (.new 44, 3) := by decide +kernel
theorem dX8_init_126 : decode cX8_init 126 = .ok (.dup, 1) := by decide +kernel
theorem dX8_init_127 : decode cX8_init 127 = .ok (.invokespecial 46, 3) := by decide +kernel
theorem dX8_init_130 : decode cX8_init 130 = .ok (.aastore, 1) := by decide +kernel
theorem dX8_init_131 : decode cX8_init 131 = .ok (.iinc 1 1, 3) := by decide +kernel
theorem dX8_init_134 : decode cX8_init 134 = .ok (.goto (-21), 3) := by decide +kernel
theorem dX8_init_137 : decode cX8_init 137 = .ok (.iconst 0, 1) := by decide +kernel
theorem dX8_init_138 : decode cX8_init 138 = .ok (.istore_n 1, 1) := by decide +kernel
theorem dX8_init_139 : decode cX8_init 139 = .ok (.iload_n 1, 1) := by decide +kernel
theorem dX8_init_140 : decode cX8_init 140 = .ok (.ldc 72, 2) := by decide +kernel
theorem dX8_init_142 : decode cX8_init 142 = .ok (.invokevirtual 74, 3) := by decide +kernel
theorem dX8_init_145 : decode cX8_init 145 = .ok (.if_icmp .ge 23, 3) := by decide +kernel
theorem dX8_init_148 : decode cX8_init 148 = .ok (.aload_n 0, 1) := by decide +kernel
theorem dX8_init_149 : decode cX8_init 149 = .ok (.getfield 10, 3) := by decide +kernel
theorem dX8_init_152 : decode cX8_init 152 = .ok (.ldc 72, 2) := by decide +kernel
theorem dX8_init_154 : decode cX8_init 154 = .ok (.iload_n 1, 1) := by decide +kernel
theorem dX8_init_155 : decode cX8_init 155 = .ok (.invokevirtual 80, 3) := by decide +kernel
theorem dX8_init_158 : decode cX8_init 158 = .ok (.invokevirtual 84, 3) := by decide +kernel
theorem dX8_init_161 : decode cX8_init 161 = .ok (.pop, 1) := by decide +kernel
theorem dX8_init_162 : decode cX8_init 162 = .ok (.iinc 1 1, 3) := by decide +kernel
theorem dX8_init_165 : decode cX8_init 165 = .ok (.goto (-26), 3) := by decide +kernel
theorem dX8_init_168 : decode cX8_init 168 = .ok (.aload_n 0, 1) := by decide +kernel
theorem dX8_init_169 : decode cX8_init 169 = .ok (.invokevirtual 88, 3) := by decide +kernel
theorem dX8_init_172 : decode cX8_init 172 = .ok (.pop, 1) := by decide +kernel
theorem dX8_init_173 : decode cX8_init 173 = .ok (.aload_n 0, 1) := by decide +kernel
theorem dX8_init_174 : decode cX8_init 174 = .ok (.getfield 10, 3) := by decide +kernel
theorem dX8_init_177 : decode cX8_init 177 = .ok (.iconst 0, 1) := by decide +kernel
theorem dX8_init_178 : decode cX8_init 178 = .ok (.putfield 91, 3) := by decide +kernel
theorem dX8_init_181 : decode cX8_init 181 = .ok (.return_, 1) := by decide +kernel
theorem dX8_write_0 : decode cX8_write 0 = .ok (.iload_n 1, 1) := by decide +kernel
theorem dX8_write_1 : decode cX8_write 1 = .ok (.bipush 32, 2) := by decide +kernel
theorem dX8_write_3 : decode cX8_write 3 = .ok (.if_icmp .lt 9, 3) := by decide +kernel
theorem dX8_write_6 : decode cX8_write 6 = .ok (.iload_n 1, 1) := by decide +kernel
theorem dX8_write_7 : decode cX8_write 7 = .ok (.bipush 126, 2) := by decide +kernel
theorem dX8_write_9 : decode cX8_write 9 = .ok (.if_icmp .le 5, 3) := by decide +kernel
theorem dX8_write_12 : decode cX8_write 12 = .ok (.iconst (-1), 1) := by decide +kernel
theorem dX8_write_13 : decode cX8_write 13 = .ok (.ireturn, 1) := by decide +kernel
theorem dX8_write_14 : decode cX8_write 14 = .ok (.aload_n 0, 1) := by decide +kernel
theorem dX8_write_15 : decode cX8_write 15 = .ok (.getfield 10, 3) := by decide +kernel
theorem dX8_write_18 : decode cX8_write 18 = .ok (.iload_n 1, 1) := by decide +kernel
theorem dX8_write_19 : decode cX8_write 19 = .ok (.i2c, 1) := by decide +kernel
theorem dX8_write_20 : decode cX8_write 20 = .ok (.invokevirtual 84, 3) := by decide +kernel
theorem dX8_write_23 : decode cX8_write 23 = .ok (.ifCond .eq 13, 3) := by decide +kernel
theorem dX8_write_26 : decode cX8_write 26 = .ok (.aload_n 0, 1) := by decide +kernel
theorem dX8_write_27 : decode cX8_write 27 = .ok (.getfield 10, 3) := by decide +kernel
theorem dX8_write_30 : decode cX8_write 30 = .ok (.getfield 91, 3) := by decide +kernel
theorem dX8_write_33 : decode cX8_write 33 = .ok (.goto 5, 3) := by decide +kernel
theorem dX8_write_36 : decode cX8_write 36 = .ok (.bipush (-3), 2) := by decide +kernel
theorem dX8_write_38 : decode cX8_write 38 = .ok (.ireturn, 1) := by decide +kernel
theorem dX8_wipe_0 : decode cX8_wipe 0 = .ok (.aload_n 0, 1) := by decide +kernel
theorem dX8_wipe_1 : decode cX8_wipe 1 = .ok (.getfield 10, 3) := by decide +kernel
theorem dX8_wipe_4 : decode cX8_wipe 4 = .ok (.getfield 91, 3) := by decide +kernel
theorem dX8_wipe_7 : decode cX8_wipe 7 = .ok (.istore_n 1, 1) := by decide +kernel
theorem dX8_wipe_8 : decode cX8_wipe 8 = .ok (.aload_n 0, 1) := by decide +kernel
theorem dX8_wipe_9 : decode cX8_wipe 9 = .ok (.getfield 10, 3) := by decide +kernel
theorem dX8_wipe_12 : decode cX8_wipe 12 = .ok (.iconst 0, 1) := by decide +kernel
theorem dX8_wipe_13 : decode cX8_wipe 13 = .ok (.putfield 91, 3) := by decide +kernel
theorem dX8_wipe_16 : decode cX8_wipe 16 = .ok (.iload_n 1, 1) := by decide +kernel
theorem dX8_wipe_17 : decode cX8_wipe 17 = .ok (.ireturn, 1) := by decide +kernel
theorem dX8_fault_0 : decode cX8_fault 0 = .ok (.aload_n 0, 1) := by decide +kernel
theorem dX8_fault_1 : decode cX8_fault 1 = .ok (.getfield 19, 3) := by decide +kernel
theorem dX8_fault_4 : decode cX8_fault 4 = .ok (.aload_n 0, 1) := by decide +kernel
theorem dX8_fault_5 : decode cX8_fault 5 = .ok (.getfield 10, 3) := by decide +kernel
theorem dX8_fault_8 : decode cX8_fault 8 = .ok (.aload_n 0, 1) := by decide +kernel
theorem dX8_fault_9 : decode cX8_fault 9 = .ok (.getfield 69, 3) := by decide +kernel
theorem dX8_fault_12 : decode cX8_fault 12 = .ok (.invokevirtual 94, 3) := by decide +kernel
theorem dX8_fault_15 : decode cX8_fault 15 = .ok (.ireturn, 1) := by decide +kernel
theorem dX8_lay_0 : decode cX8_lay 0 = .ok (.aload_n 0, 1) := by decide +kernel
theorem dX8_lay_1 : decode cX8_lay 1 = .ok (.invokevirtual 88, 3) := by decide +kernel
theorem dX8_lay_4 : decode cX8_lay 4 = .ok (.ireturn, 1) := by decide +kernel
theorem dX8_bay_0 : decode cX8_bay 0 = .ok (.aload_n 0, 1) := by decide +kernel
theorem dX8_bay_1 : decode cX8_bay 1 = .ok (.getfield 65, 3) := by decide +kernel
theorem dX8_bay_4 : decode cX8_bay 4 = .ok (.iload_n 1, 1) := by decide +kernel
theorem dX8_bay_5 : decode cX8_bay 5 = .ok (.invokevirtual 98, 3) := by decide +kernel
theorem dX8_bay_8 : decode cX8_bay 8 = .ok (.ifCond .eq 13, 3) := by decide +kernel
theorem dX8_bay_11 : decode cX8_bay 11 = .ok (.iload_n 2, 1) := by decide +kernel
theorem dX8_bay_12 : decode cX8_bay 12 = .ok (.ifCond .lt 9, 3) := by decide +kernel
theorem dX8_bay_15 : decode cX8_bay 15 = .ok (.iload_n 2, 1) := by decide +kernel
theorem dX8_bay_16 : decode cX8_bay 16 = .ok (.bipush 6, 2) := by decide +kernel
theorem dX8_bay_18 : decode cX8_bay 18 = .ok (.if_icmp .le 5, 3) := by decide +kernel
theorem dX8_bay_21 : decode cX8_bay 21 = .ok (.iconst (-1), 1) := by decide +kernel
theorem dX8_bay_22 : decode cX8_bay 22 = .ok (.ireturn, 1) := by decide +kernel
theorem dX8_bay_23 : decode cX8_bay 23 = .ok (.aload_n 0, 1) := by decide +kernel
theorem dX8_bay_24 : decode cX8_bay 24 = .ok (.getfield 47, 3) := by decide +kernel
theorem dX8_bay_27 : decode cX8_bay 27 = .ok (.iload_n 1, 1) := by decide +kernel
theorem dX8_bay_28 : decode cX8_bay 28 = .ok (.invokevirtual 102, 3) := by decide +kernel
theorem dX8_bay_31 : decode cX8_bay 31 = .ok (.istore_n 3, 1) := by decide +kernel
theorem dX8_bay_32 : decode cX8_bay 32 = .ok (.iload_n 2, 1) := by decide +kernel
theorem dX8_bay_33 : decode cX8_bay 33 = .ok (.lookupswitch 65 #[(0, 35), (1, 45), (6, 55)], 35) := by decide +kernel
theorem dX8_bay_68 : decode cX8_bay 68 = .ok (.aload_n 0, 1) := by decide +kernel
theorem dX8_bay_69 : decode cX8_bay 69 = .ok (.getfield 65, 3) := by decide +kernel
theorem dX8_bay_72 : decode cX8_bay 72 = .ok (.getfield 105, 3) := by decide +kernel
theorem dX8_bay_75 : decode cX8_bay 75 = .ok (.iload_n 1, 1) := by decide +kernel
theorem dX8_bay_76 : decode cX8_bay 76 = .ok (.iaload, 1) := by decide +kernel
theorem dX8_bay_77 : decode cX8_bay 77 = .ok (.ireturn, 1) := by decide +kernel
theorem dX8_bay_78 : decode cX8_bay 78 = .ok (.aload_n 0, 1) := by decide +kernel
theorem dX8_bay_79 : decode cX8_bay 79 = .ok (.getfield 65, 3) := by decide +kernel
theorem dX8_bay_82 : decode cX8_bay 82 = .ok (.getfield 109, 3) := by decide +kernel
theorem dX8_bay_85 : decode cX8_bay 85 = .ok (.iload_n 1, 1) := by decide +kernel
theorem dX8_bay_86 : decode cX8_bay 86 = .ok (.iaload, 1) := by decide +kernel
theorem dX8_bay_87 : decode cX8_bay 87 = .ok (.ireturn, 1) := by decide +kernel
theorem dX8_bay_88 : decode cX8_bay 88 = .ok (.iload_n 3, 1) := by decide +kernel
theorem dX8_bay_89 : decode cX8_bay 89 = .ok (.ifCond .eq 7, 3) := by decide +kernel
theorem dX8_bay_92 : decode cX8_bay 92 = .ok (.iconst 1, 1) := by decide +kernel
theorem dX8_bay_93 : decode cX8_bay 93 = .ok (.goto 4, 3) := by decide +kernel
theorem dX8_bay_96 : decode cX8_bay 96 = .ok (.iconst 0, 1) := by decide +kernel
theorem dX8_bay_97 : decode cX8_bay 97 = .ok (.ireturn, 1) := by decide +kernel
theorem dX8_bay_98 : decode cX8_bay 98 = .ok (.iload_n 3, 1) := by decide +kernel
theorem dX8_bay_99 : decode cX8_bay 99 = .ok (.ifCond .eq 7, 3) := by decide +kernel
theorem dX8_bay_102 : decode cX8_bay 102 = .ok (.iconst 0, 1) := by decide +kernel
theorem dX8_bay_103 : decode cX8_bay 103 = .ok (.goto 9, 3) := by decide +kernel
theorem dX8_bay_106 : decode cX8_bay 106 = .ok (.aload_n 0, 1) := by decide +kernel
theorem dX8_bay_107 : decode cX8_bay 107 = .ok (.iload_n 1, 1) := by decide +kernel
theorem dX8_bay_108 : decode cX8_bay 108 = .ok (.iload_n 2, 1) := by decide +kernel
theorem dX8_bay_109 : decode cX8_bay 109 = .ok (.invokevirtual 112, 3) := by decide +kernel
theorem dX8_bay_112 : decode cX8_bay 112 = .ok (.ireturn, 1) := by decide +kernel
theorem dX8_buttress_0 : decode cX8_buttress 0 = .ok (.aload_n 0, 1) := by decide +kernel
theorem dX8_buttress_1 : decode cX8_buttress 1 = .ok (.getfield 65, 3) := by decide +kernel
theorem dX8_buttress_4 : decode cX8_buttress 4 = .ok (.iload_n 1, 1) := by decide +kernel
theorem dX8_buttress_5 : decode cX8_buttress 5 = .ok (.invokevirtual 116, 3) := by decide +kernel
theorem dX8_buttress_8 : decode cX8_buttress 8 = .ok (.ifCond .ne 5, 3) := by decide +kernel
theorem dX8_buttress_11 : decode cX8_buttress 11 = .ok (.iconst (-1), 1) := by decide +kernel
theorem dX8_buttress_12 : decode cX8_buttress 12 = .ok (.ireturn, 1) := by decide +kernel
theorem dX8_buttress_13 : decode cX8_buttress 13 = .ok (.iload_n 2, 1) := by decide +kernel
theorem dX8_buttress_14 : decode cX8_buttress 14 = .ok (.tableswitch 105 0 5 #[38, 48, 58, 68, 78, 88], 38) := by decide +kernel
theorem dX8_buttress_52 : decode cX8_buttress 52 = .ok (.aload_n 0, 1) := by decide +kernel
theorem dX8_buttress_53 : decode cX8_buttress 53 = .ok (.getfield 65, 3) := by decide +kernel
theorem dX8_buttress_56 : decode cX8_buttress 56 = .ok (.getfield 119, 3) := by decide +kernel
theorem dX8_buttress_59 : decode cX8_buttress 59 = .ok (.iload_n 1, 1) := by decide +kernel
theorem dX8_buttress_60 : decode cX8_buttress 60 = .ok (.iaload, 1) := by decide +kernel
theorem dX8_buttress_61 : decode cX8_buttress 61 = .ok (.ireturn, 1) := by decide +kernel
theorem dX8_buttress_62 : decode cX8_buttress 62 = .ok (.aload_n 0, 1) := by decide +kernel
theorem dX8_buttress_63 : decode cX8_buttress 63 = .ok (.getfield 65, 3) := by decide +kernel
theorem dX8_buttress_66 : decode cX8_buttress 66 = .ok (.getfield 122, 3) := by decide +kernel
theorem dX8_buttress_69 : decode cX8_buttress 69 = .ok (.iload_n 1, 1) := by decide +kernel
theorem dX8_buttress_70 : decode cX8_buttress 70 = .ok (.iaload, 1) := by decide +kernel
theorem dX8_buttress_71 : decode cX8_buttress 71 = .ok (.ireturn, 1) := by decide +kernel
theorem dX8_buttress_72 : decode cX8_buttress 72 = .ok (.aload_n 0, 1) := by decide +kernel
theorem dX8_buttress_73 : decode cX8_buttress 73 = .ok (.getfield 47, 3) := by decide +kernel
theorem dX8_buttress_76 : decode cX8_buttress 76 = .ok (.getfield 125, 3) := by decide +kernel
theorem dX8_buttress_79 : decode cX8_buttress 79 = .ok (.iload_n 1, 1) := by decide +kernel
theorem dX8_buttress_80 : decode cX8_buttress 80 = .ok (.iaload, 1) := by decide +kernel
theorem dX8_buttress_81 : decode cX8_buttress 81 = .ok (.ireturn, 1) := by decide +kernel
theorem dX8_buttress_82 : decode cX8_buttress 82 = .ok (.aload_n 0, 1) := by decide +kernel
theorem dX8_buttress_83 : decode cX8_buttress 83 = .ok (.getfield 65, 3) := by decide +kernel
theorem dX8_buttress_86 : decode cX8_buttress 86 = .ok (.getfield 128, 3) := by decide +kernel
theorem dX8_buttress_89 : decode cX8_buttress 89 = .ok (.iload_n 1, 1) := by decide +kernel
theorem dX8_buttress_90 : decode cX8_buttress 90 = .ok (.iaload, 1) := by decide +kernel
theorem dX8_buttress_91 : decode cX8_buttress 91 = .ok (.ireturn, 1) := by decide +kernel
theorem dX8_buttress_92 : decode cX8_buttress 92 = .ok (.aload_n 0, 1) := by decide +kernel
theorem dX8_buttress_93 : decode cX8_buttress 93 = .ok (.getfield 47, 3) := by decide +kernel
theorem dX8_buttress_96 : decode cX8_buttress 96 = .ok (.getfield 131, 3) := by decide +kernel
theorem dX8_buttress_99 : decode cX8_buttress 99 = .ok (.iload_n 1, 1) := by decide +kernel
theorem dX8_buttress_100 : decode cX8_buttress 100 = .ok (.iaload, 1) := by decide +kernel
theorem dX8_buttress_101 : decode cX8_buttress 101 = .ok (.ireturn, 1) := by decide +kernel
theorem dX8_buttress_102 : decode cX8_buttress 102 = .ok (.aload_n 0, 1) := by decide +kernel
theorem dX8_buttress_103 : decode cX8_buttress 103 = .ok (.getfield 47, 3) := by decide +kernel
theorem dX8_buttress_106 : decode cX8_buttress 106 = .ok (.iload_n 1, 1) := by decide +kernel
theorem dX8_buttress_107 : decode cX8_buttress 107 = .ok (.invokevirtual 134, 3) := by decide +kernel
theorem dX8_buttress_110 : decode cX8_buttress 110 = .ok (.ifCond .eq 7, 3) := by decide +kernel
theorem dX8_buttress_113 : decode cX8_buttress 113 = .ok (.iconst 1, 1) := by decide +kernel
theorem dX8_buttress_114 : decode cX8_buttress 114 = .ok (.goto 4, 3) := by decide +kernel
theorem dX8_buttress_117 : decode cX8_buttress 117 = .ok (.iconst 0, 1) := by decide +kernel
theorem dX8_buttress_118 : decode cX8_buttress 118 = .ok (.ireturn, 1) := by decide +kernel
theorem dX8_buttress_119 : decode cX8_buttress 119 = .ok (.iconst (-1), 1) := by decide +kernel
theorem dX8_buttress_120 : decode cX8_buttress 120 = .ok (.ireturn, 1) := by decide +kernel
theorem dX8_carts_0 : decode cX8_carts 0 = .ok (.iload_n 1, 1) := by decide +kernel
theorem dX8_carts_1 : decode cX8_carts 1 = .ok (.ifCond .lt 9, 3) := by decide +kernel
theorem dX8_carts_4 : decode cX8_carts 4 = .ok (.iload_n 1, 1) := by decide +kernel
theorem dX8_carts_5 : decode cX8_carts 5 = .ok (.bipush 99, 2) := by decide +kernel
theorem dX8_carts_7 : decode cX8_carts 7 = .ok (.if_icmp .le 5, 3) := by decide +kernel
theorem dX8_carts_10 : decode cX8_carts 10 = .ok (.iconst (-1), 1) := by decide +kernel
theorem dX8_carts_11 : decode cX8_carts 11 = .ok (.ireturn, 1) := by decide +kernel
theorem dX8_carts_12 : decode cX8_carts 12 = .ok (.aload_n 0, 1) := by decide +kernel
theorem dX8_carts_13 : decode cX8_carts 13 = .ok (.getfield 65, 3) := by decide +kernel
theorem dX8_carts_16 : decode cX8_carts 16 = .ok (.aload_n 0, 1) := by decide +kernel
theorem dX8_carts_17 : decode cX8_carts 17 = .ok (.getfield 47, 3) := by decide +kernel
theorem dX8_carts_20 : decode cX8_carts 20 = .ok (.getfield 137, 3) := by decide +kernel
theorem dX8_carts_23 : decode cX8_carts 23 = .ok (.iload_n 1, 1) := by decide +kernel
theorem dX8_carts_24 : decode cX8_carts 24 = .ok (.iadd, 1) := by decide +kernel
theorem dX8_carts_25 : decode cX8_carts 25 = .ok (.invokevirtual 140, 3) := by decide +kernel
theorem dX8_carts_28 : decode cX8_carts 28 = .ok (.ifCond .eq 7, 3) := by decide +kernel
theorem dX8_carts_31 : decode cX8_carts 31 = .ok (.iconst 1, 1) := by decide +kernel
theorem dX8_carts_32 : decode cX8_carts 32 = .ok (.goto 4, 3) := by decide +kernel
theorem dX8_carts_35 : decode cX8_carts 35 = .ok (.iconst 0, 1) := by decide +kernel
theorem dX8_carts_36 : decode cX8_carts 36 = .ok (.ireturn, 1) := by decide +kernel
theorem dX8_pass_0 : decode cX8_pass 0 = .ok (.iload_n 1, 1) := by decide +kernel
theorem dX8_pass_1 : decode cX8_pass 1 = .ok (.iconst 1, 1) := by decide +kernel
theorem dX8_pass_2 : decode cX8_pass 2 = .ok (.if_icmp .lt 9, 3) := by decide +kernel
theorem dX8_pass_5 : decode cX8_pass 5 = .ok (.iload_n 1, 1) := by decide +kernel
theorem dX8_pass_6 : decode cX8_pass 6 = .ok (.bipush 24, 2) := by decide +kernel
theorem dX8_pass_8 : decode cX8_pass 8 = .ok (.if_icmp .le 5, 3) := by decide +kernel
theorem dX8_pass_11 : decode cX8_pass 11 = .ok (.iconst (-1), 1) := by decide +kernel
theorem dX8_pass_12 : decode cX8_pass 12 = .ok (.ireturn, 1) := by decide +kernel
theorem dX8_pass_13 : decode cX8_pass 13 = .ok (.aload_n 0, 1) := by decide +kernel
theorem dX8_pass_14 : decode cX8_pass 14 = .ok (.getfield 54, 3) := by decide +kernel
theorem dX8_pass_17 : decode cX8_pass 17 = .ok (.aload_n 0, 1) := by decide +kernel
theorem dX8_pass_18 : decode cX8_pass 18 = .ok (.getfield 47, 3) := by decide +kernel
theorem dX8_pass_21 : decode cX8_pass 21 = .ok (.invokevirtual 143, 3) := by decide +kernel
theorem dX8_pass_24 : decode cX8_pass 24 = .ok (.iconst 0, 1) := by decide +kernel
theorem dX8_pass_25 : decode cX8_pass 25 = .ok (.istore_n 2, 1) := by decide +kernel
theorem dX8_pass_26 : decode cX8_pass 26 = .ok (.iload_n 2, 1) := by decide +kernel
theorem dX8_pass_27 : decode cX8_pass 27 = .ok (.iload_n 1, 1) := by decide +kernel
theorem dX8_pass_28 : decode cX8_pass 28 = .ok (.if_icmp .ge 25, 3) := by decide +kernel
theorem dX8_pass_31 : decode cX8_pass 31 = .ok (.aload_n 0, 1) := by decide +kernel
theorem dX8_pass_32 : decode cX8_pass 32 = .ok (.getfield 26, 3) := by decide +kernel
theorem dX8_pass_35 : decode cX8_pass 35 = .ok (.aload_n 0, 1) := by decide +kernel
theorem dX8_pass_36 : decode cX8_pass 36 = .ok (.getfield 65, 3) := by decide +kernel
theorem dX8_pass_39 : decode cX8_pass 39 = .ok (.aload_n 0, 1) := by decide +kernel
theorem dX8_pass_40 : decode cX8_pass 40 = .ok (.getfield 47, 3) := by decide +kernel
theorem dX8_pass_43 : decode cX8_pass 43 = .ok (.invokevirtual 147, 3) := by decide +kernel
theorem dX8_pass_46 : decode cX8_pass 46 = .ok (.pop, 1) := by decide +kernel
theorem dX8_pass_47 : decode cX8_pass 47 = .ok (.iinc 2 1, 3) := by decide +kernel
theorem dX8_pass_50 : decode cX8_pass 50 = .ok (.goto (-24), 3) := by decide +kernel
theorem dX8_pass_53 : decode cX8_pass 53 = .ok (.aload_n 0, 1) := by decide +kernel
theorem dX8_pass_54 : decode cX8_pass 54 = .ok (.getfield 47, 3) := by decide +kernel
theorem dX8_pass_57 : decode cX8_pass 57 = .ok (.getfield 137, 3) := by decide +kernel
theorem dX8_pass_60 : decode cX8_pass 60 = .ok (.ireturn, 1) := by decide +kernel
theorem dX8_down_0 : decode cX8_down 0 = .ok (.aload_n 0, 1) := by decide +kernel
theorem dX8_down_1 : decode cX8_down 1 = .ok (.getfield 65, 3) := by decide +kernel
theorem dX8_down_4 : decode cX8_down 4 = .ok (.iload_n 1, 1) := by decide +kernel
theorem dX8_down_5 : decode cX8_down 5 = .ok (.invokevirtual 116, 3) := by decide +kernel
theorem dX8_down_8 : decode cX8_down 8 = .ok (.ifCond .ne 5, 3) := by decide +kernel
theorem dX8_down_11 : decode cX8_down 11 = .ok (.iconst (-1), 1) := by decide +kernel
theorem dX8_down_12 : decode cX8_down 12 = .ok (.ireturn, 1) := by decide +kernel
theorem dX8_down_13 : decode cX8_down 13 = .ok (.aload_n 0, 1) := by decide +kernel
theorem dX8_down_14 : decode cX8_down 14 = .ok (.getfield 47, 3) := by decide +kernel
theorem dX8_down_17 : decode cX8_down 17 = .ok (.aload_n 0, 1) := by decide +kernel
theorem dX8_down_18 : decode cX8_down 18 = .ok (.getfield 65, 3) := by decide +kernel
theorem dX8_down_21 : decode cX8_down 21 = .ok (.iload_n 1, 1) := by decide +kernel
theorem dX8_down_22 : decode cX8_down 22 = .ok (.invokevirtual 151, 3) := by decide +kernel
theorem dX8_down_25 : decode cX8_down 25 = .ok (.ifCond .ne 6, 3) := by decide +kernel
theorem dX8_down_28 : decode cX8_down 28 = .ok (.bipush (-2), 2) := by decide +kernel
theorem dX8_down_30 : decode cX8_down 30 = .ok (.ireturn, 1) := by decide +kernel
theorem dX8_down_31 : decode cX8_down 31 = .ok (.aload_n 0, 1) := by decide +kernel
theorem dX8_down_32 : decode cX8_down 32 = .ok (.getfield 54, 3) := by decide +kernel
theorem dX8_down_35 : decode cX8_down 35 = .ok (.aload_n 0, 1) := by decide +kernel
theorem dX8_down_36 : decode cX8_down 36 = .ok (.getfield 47, 3) := by decide +kernel
theorem dX8_down_39 : decode cX8_down 39 = .ok (.invokevirtual 143, 3) := by decide +kernel
theorem dX8_down_42 : decode cX8_down 42 = .ok (.aload_n 0, 1) := by decide +kernel
theorem dX8_down_43 : decode cX8_down 43 = .ok (.getfield 47, 3) := by decide +kernel
theorem dX8_down_46 : decode cX8_down 46 = .ok (.iload_n 1, 1) := by decide +kernel
theorem dX8_down_47 : decode cX8_down 47 = .ok (.invokevirtual 155, 3) := by decide +kernel
theorem dX8_down_50 : decode cX8_down 50 = .ok (.aload_n 0, 1) := by decide +kernel
theorem dX8_down_51 : decode cX8_down 51 = .ok (.getfield 47, 3) := by decide +kernel
theorem dX8_down_54 : decode cX8_down 54 = .ok (.getfield 131, 3) := by decide +kernel
theorem dX8_down_57 : decode cX8_down 57 = .ok (.iload_n 1, 1) := by decide +kernel
theorem dX8_down_58 : decode cX8_down 58 = .ok (.iaload, 1) := by decide +kernel
theorem dX8_down_59 : decode cX8_down 59 = .ok (.ireturn, 1) := by decide +kernel
theorem dX8_up_0 : decode cX8_up 0 = .ok (.aload_n 0, 1) := by decide +kernel
theorem dX8_up_1 : decode cX8_up 1 = .ok (.getfield 65, 3) := by decide +kernel
theorem dX8_up_4 : decode cX8_up 4 = .ok (.iload_n 1, 1) := by decide +kernel
theorem dX8_up_5 : decode cX8_up 5 = .ok (.invokevirtual 116, 3) := by decide +kernel
theorem dX8_up_8 : decode cX8_up 8 = .ok (.ifCond .ne 5, 3) := by decide +kernel
theorem dX8_up_11 : decode cX8_up 11 = .ok (.iconst (-1), 1) := by decide +kernel
theorem dX8_up_12 : decode cX8_up 12 = .ok (.ireturn, 1) := by decide +kernel
theorem dX8_up_13 : decode cX8_up 13 = .ok (.aload_n 0, 1) := by decide +kernel
theorem dX8_up_14 : decode cX8_up 14 = .ok (.getfield 47, 3) := by decide +kernel
theorem dX8_up_17 : decode cX8_up 17 = .ok (.aload_n 0, 1) := by decide +kernel
theorem dX8_up_18 : decode cX8_up 18 = .ok (.getfield 65, 3) := by decide +kernel
theorem dX8_up_21 : decode cX8_up 21 = .ok (.iload_n 1, 1) := by decide +kernel
theorem dX8_up_22 : decode cX8_up 22 = .ok (.invokevirtual 159, 3) := by decide +kernel
theorem dX8_up_25 : decode cX8_up 25 = .ok (.ifCond .ne 6, 3) := by decide +kernel
theorem dX8_up_28 : decode cX8_up 28 = .ok (.bipush (-2), 2) := by decide +kernel
theorem dX8_up_30 : decode cX8_up 30 = .ok (.ireturn, 1) := by decide +kernel
theorem dX8_up_31 : decode cX8_up 31 = .ok (.aload_n 0, 1) := by decide +kernel
theorem dX8_up_32 : decode cX8_up 32 = .ok (.getfield 54, 3) := by decide +kernel
theorem dX8_up_35 : decode cX8_up 35 = .ok (.aload_n 0, 1) := by decide +kernel
theorem dX8_up_36 : decode cX8_up 36 = .ok (.getfield 47, 3) := by decide +kernel
theorem dX8_up_39 : decode cX8_up 39 = .ok (.invokevirtual 143, 3) := by decide +kernel
theorem dX8_up_42 : decode cX8_up 42 = .ok (.aload_n 0, 1) := by decide +kernel
theorem dX8_up_43 : decode cX8_up 43 = .ok (.getfield 47, 3) := by decide +kernel
theorem dX8_up_46 : decode cX8_up 46 = .ok (.iload_n 1, 1) := by decide +kernel
theorem dX8_up_47 : decode cX8_up 47 = .ok (.invokevirtual 162, 3) := by decide +kernel
theorem dX8_up_50 : decode cX8_up 50 = .ok (.aload_n 0, 1) := by decide +kernel
theorem dX8_up_51 : decode cX8_up 51 = .ok (.getfield 47, 3) := by decide +kernel
theorem dX8_up_54 : decode cX8_up 54 = .ok (.aload_n 0, 1) := by decide +kernel
theorem dX8_up_55 : decode cX8_up 55 = .ok (.getfield 65, 3) := by decide +kernel
theorem dX8_up_58 : decode cX8_up 58 = .ok (.aload_n 0, 1) := by decide +kernel
theorem dX8_up_59 : decode cX8_up 59 = .ok (.getfield 47, 3) := by decide +kernel
theorem dX8_up_62 : decode cX8_up 62 = .ok (.getfield 125, 3) := by decide +kernel
theorem dX8_up_65 : decode cX8_up 65 = .ok (.iload_n 1, 1) := by decide +kernel
theorem dX8_up_66 : decode cX8_up 66 = .ok (.iaload, 1) := by decide +kernel
theorem dX8_up_67 : decode cX8_up 67 = .ok (.invokevirtual 165, 3) := by decide +kernel
theorem dX8_up_70 : decode cX8_up 70 = .ok (.ireturn, 1) := by decide +kernel
theorem dX8_send_0 : decode cX8_send 0 = .ok (.aload_n 0, 1) := by decide +kernel
theorem dX8_send_1 : decode cX8_send 1 = .ok (.getfield 65, 3) := by decide +kernel
theorem dX8_send_4 : decode cX8_send 4 = .ok (.iload_n 1, 1) := by decide +kernel
theorem dX8_send_5 : decode cX8_send 5 = .ok (.invokevirtual 116, 3) := by decide +kernel
theorem dX8_send_8 : decode cX8_send 8 = .ok (.ifCond .eq 14, 3) := by decide +kernel
theorem dX8_send_11 : decode cX8_send 11 = .ok (.aload_n 0, 1) := by decide +kernel
theorem dX8_send_12 : decode cX8_send 12 = .ok (.getfield 65, 3) := by decide +kernel
theorem dX8_send_15 : decode cX8_send 15 = .ok (.iload_n 2, 1) := by decide +kernel
theorem dX8_send_16 : decode cX8_send 16 = .ok (.invokevirtual 98, 3) := by decide +kernel
theorem dX8_send_19 : decode cX8_send 19 = .ok (.ifCond .ne 5, 3) := by decide +kernel
theorem dX8_send_22 : decode cX8_send 22 = .ok (.iconst (-1), 1) := by decide +kernel
theorem dX8_send_23 : decode cX8_send 23 = .ok (.ireturn, 1) := by decide +kernel
theorem dX8_send_24 : decode cX8_send 24 = .ok (.aload_n 0, 1) := by decide +kernel
theorem dX8_send_25 : decode cX8_send 25 = .ok (.getfield 47, 3) := by decide +kernel
theorem dX8_send_28 : decode cX8_send 28 = .ok (.iload_n 1, 1) := by decide +kernel
theorem dX8_send_29 : decode cX8_send 29 = .ok (.invokevirtual 134, 3) := by decide +kernel
theorem dX8_send_32 : decode cX8_send 32 = .ok (.ifCond .eq 6, 3) := by decide +kernel
theorem dX8_send_35 : decode cX8_send 35 = .ok (.bipush (-2), 2) := by decide +kernel
theorem dX8_send_37 : decode cX8_send 37 = .ok (.ireturn, 1) := by decide +kernel
theorem dX8_send_38 : decode cX8_send 38 = .ok (.aload_n 0, 1) := by decide +kernel
theorem dX8_send_39 : decode cX8_send 39 = .ok (.getfield 54, 3) := by decide +kernel
theorem dX8_send_42 : decode cX8_send 42 = .ok (.aload_n 0, 1) := by decide +kernel
theorem dX8_send_43 : decode cX8_send 43 = .ok (.getfield 47, 3) := by decide +kernel
theorem dX8_send_46 : decode cX8_send 46 = .ok (.invokevirtual 143, 3) := by decide +kernel
theorem dX8_send_49 : decode cX8_send 49 = .ok (.aload_n 0, 1) := by decide +kernel
theorem dX8_send_50 : decode cX8_send 50 = .ok (.getfield 47, 3) := by decide +kernel
theorem dX8_send_53 : decode cX8_send 53 = .ok (.getfield 125, 3) := by decide +kernel
theorem dX8_send_56 : decode cX8_send 56 = .ok (.iload_n 1, 1) := by decide +kernel
theorem dX8_send_57 : decode cX8_send 57 = .ok (.iaload, 1) := by decide +kernel
theorem dX8_send_58 : decode cX8_send 58 = .ok (.istore_n 3, 1) := by decide +kernel
theorem dX8_send_59 : decode cX8_send 59 = .ok (.aload_n 0, 1) := by decide +kernel
theorem dX8_send_60 : decode cX8_send 60 = .ok (.getfield 47, 3) := by decide +kernel
theorem dX8_send_63 : decode cX8_send 63 = .ok (.getfield 125, 3) := by decide +kernel
theorem dX8_send_66 : decode cX8_send 66 = .ok (.iload_n 1, 1) := by decide +kernel
theorem dX8_send_67 : decode cX8_send 67 = .ok (.iload_n 2, 1) := by decide +kernel
theorem dX8_send_68 : decode cX8_send 68 = .ok (.iastore, 1) := by decide +kernel
theorem dX8_send_69 : decode cX8_send 69 = .ok (.iload_n 3, 1) := by decide +kernel
theorem dX8_send_70 : decode cX8_send 70 = .ok (.ireturn, 1) := by decide +kernel
theorem dX8_undo_0 : decode cX8_undo 0 = .ok (.aload_n 0, 1) := by decide +kernel
theorem dX8_undo_1 : decode cX8_undo 1 = .ok (.getfield 54, 3) := by decide +kernel
theorem dX8_undo_4 : decode cX8_undo 4 = .ok (.aload_n 0, 1) := by decide +kernel
theorem dX8_undo_5 : decode cX8_undo 5 = .ok (.getfield 47, 3) := by decide +kernel
theorem dX8_undo_8 : decode cX8_undo 8 = .ok (.invokevirtual 169, 3) := by decide +kernel
theorem dX8_undo_11 : decode cX8_undo 11 = .ok (.ifCond .eq 13, 3) := by decide +kernel
theorem dX8_undo_14 : decode cX8_undo 14 = .ok (.aload_n 0, 1) := by decide +kernel
theorem dX8_undo_15 : decode cX8_undo 15 = .ok (.getfield 54, 3) := by decide +kernel
theorem dX8_undo_18 : decode cX8_undo 18 = .ok (.getfield 173, 3) := by decide +kernel
theorem dX8_undo_21 : decode cX8_undo 21 = .ok (.goto 5, 3) := by decide +kernel
theorem dX8_undo_24 : decode cX8_undo 24 = .ok (.bipush (-2), 2) := by decide +kernel
theorem dX8_undo_26 : decode cX8_undo 26 = .ok (.ireturn, 1) := by decide +kernel
theorem dX8_stands_0 : decode cX8_stands 0 = .ok (.iload_n 1, 1) := by decide +kernel
theorem dX8_stands_1 : decode cX8_stands 1 = .ok (.ifCond .lt 8, 3) := by decide +kernel
theorem dX8_stands_4 : decode cX8_stands 4 = .ok (.iload_n 1, 1) := by decide +kernel
theorem dX8_stands_5 : decode cX8_stands 5 = .ok (.iconst 1, 1) := by decide +kernel
theorem dX8_stands_6 : decode cX8_stands 6 = .ok (.if_icmp .le 5, 3) := by decide +kernel
theorem dX8_stands_9 : decode cX8_stands 9 = .ok (.iconst (-1), 1) := by decide +kernel
theorem dX8_stands_10 : decode cX8_stands 10 = .ok (.ireturn, 1) := by decide +kernel
theorem dX8_stands_11 : decode cX8_stands 11 = .ok (.aload_n 0, 1) := by decide +kernel
theorem dX8_stands_12 : decode cX8_stands 12 = .ok (.getfield 33, 3) := by decide +kernel
theorem dX8_stands_15 : decode cX8_stands 15 = .ok (.aload_n 0, 1) := by decide +kernel
theorem dX8_stands_16 : decode cX8_stands 16 = .ok (.getfield 47, 3) := by decide +kernel
theorem dX8_stands_19 : decode cX8_stands 19 = .ok (.invokevirtual 176, 3) := by decide +kernel
theorem dX8_stands_22 : decode cX8_stands 22 = .ok (.aload_n 0, 1) := by decide +kernel
theorem dX8_stands_23 : decode cX8_stands 23 = .ok (.getfield 33, 3) := by decide +kernel
theorem dX8_stands_26 : decode cX8_stands 26 = .ok (.aload_n 0, 1) := by decide +kernel
theorem dX8_stands_27 : decode cX8_stands 27 = .ok (.getfield 65, 3) := by decide +kernel
theorem dX8_stands_30 : decode cX8_stands 30 = .ok (.bipush 60, 2) := by decide +kernel
theorem dX8_stands_32 : decode cX8_stands 32 = .ok (.invokevirtual 179, 3) := by decide +kernel
theorem dX8_stands_35 : decode cX8_stands 35 = .ok (.istore_n 2, 1) := by decide +kernel
theorem dX8_stands_36 : decode cX8_stands 36 = .ok (.iload_n 2, 1) := by decide +kernel
theorem dX8_stands_37 : decode cX8_stands 37 = .ok (.bipush (-4), 2) := by decide +kernel
theorem dX8_stands_39 : decode cX8_stands 39 = .ok (.if_icmp .eq 7, 3) := by decide +kernel
theorem dX8_stands_42 : decode cX8_stands 42 = .ok (.iload_n 1, 1) := by decide +kernel
theorem dX8_stands_43 : decode cX8_stands 43 = .ok (.ifCond .ne 7, 3) := by decide +kernel
theorem dX8_stands_46 : decode cX8_stands 46 = .ok (.iload_n 2, 1) := by decide +kernel
theorem dX8_stands_47 : decode cX8_stands 47 = .ok (.goto 10, 3) := by decide +kernel
theorem dX8_stands_50 : decode cX8_stands 50 = .ok (.aload_n 0, 1) := by decide +kernel
theorem dX8_stands_51 : decode cX8_stands 51 = .ok (.getfield 33, 3) := by decide +kernel
theorem dX8_stands_54 : decode cX8_stands 54 = .ok (.invokevirtual 182, 3) := by decide +kernel
theorem dX8_stands_57 : decode cX8_stands 57 = .ok (.ireturn, 1) := by decide +kernel
theorem dX8_needed_0 : decode cX8_needed 0 = .ok (.bipush (-4), 2) := by decide +kernel
theorem dX8_needed_2 : decode cX8_needed 2 = .ok (.istore_n 1, 1) := by decide +kernel
theorem dX8_needed_3 : decode cX8_needed 3 = .ok (.iconst 0, 1) := by decide +kernel
theorem dX8_needed_4 : decode cX8_needed 4 = .ok (.istore_n 2, 1) := by decide +kernel
theorem dX8_needed_5 : decode cX8_needed 5 = .ok (.iload_n 2, 1) := by decide +kernel
theorem dX8_needed_6 : decode cX8_needed 6 = .ok (.aload_n 0, 1) := by decide +kernel
theorem dX8_needed_7 : decode cX8_needed 7 = .ok (.getfield 65, 3) := by decide +kernel
theorem dX8_needed_10 : decode cX8_needed 10 = .ok (.invokevirtual 185, 3) := by decide +kernel
theorem dX8_needed_13 : decode cX8_needed 13 = .ok (.if_icmp .gt 42, 3) := by decide +kernel
theorem dX8_needed_16 : decode cX8_needed 16 = .ok (.iload_n 2, 1) := by decide +kernel
theorem dX8_needed_17 : decode cX8_needed 17 = .ok (.iload_n 1, 1) := by decide +kernel
theorem dX8_needed_18 : decode cX8_needed 18 = .ok (.invokestatic 188, 3) := by decide +kernel
theorem dX8_needed_21 : decode cX8_needed 21 = .ok (.ifCond .eq 28, 3) := by decide +kernel
theorem dX8_needed_24 : decode cX8_needed 24 = .ok (.aload_n 0, 1) := by decide +kernel
theorem dX8_needed_25 : decode cX8_needed 25 = .ok (.getfield 47, 3) := by decide +kernel
theorem dX8_needed_28 : decode cX8_needed 28 = .ok (.aload_n 0, 1) := by decide +kernel
theorem dX8_needed_29 : decode cX8_needed 29 = .ok (.getfield 65, 3) := by decide +kernel
theorem dX8_needed_32 : decode cX8_needed 32 = .ok (.iload_n 2, 1) := by decide +kernel
theorem dX8_needed_33 : decode cX8_needed 33 = .ok (.invokevirtual 192, 3) := by decide +kernel
theorem dX8_needed_36 : decode cX8_needed 36 = .ok (.ifCond .eq 13, 3) := by decide +kernel
theorem dX8_needed_39 : decode cX8_needed 39 = .ok (.aload_n 0, 1) := by decide +kernel
theorem dX8_needed_40 : decode cX8_needed 40 = .ok (.iload_n 2, 1) := by decide +kernel
theorem dX8_needed_41 : decode cX8_needed 41 = .ok (.invokevirtual 195, 3) := by decide +kernel
theorem dX8_needed_44 : decode cX8_needed 44 = .ok (.ifCond .eq 5, 3) := by decide +kernel
theorem dX8_needed_47 : decode cX8_needed 47 = .ok (.iload_n 2, 1) := by decide +kernel
theorem dX8_needed_48 : decode cX8_needed 48 = .ok (.istore_n 1, 1) := by decide +kernel
theorem dX8_needed_49 : decode cX8_needed 49 = .ok (.iinc 2 1, 3) := by decide +kernel
theorem dX8_needed_52 : decode cX8_needed 52 = .ok (.goto (-47), 3) := by decide +kernel
theorem dX8_needed_55 : decode cX8_needed 55 = .ok (.iload_n 1, 1) := by decide +kernel
theorem dX8_needed_56 : decode cX8_needed 56 = .ok (.ireturn, 1) := by decide +kernel
theorem dX8_cuts_0 : decode cX8_cuts 0 = .ok (.bipush (-4), 2) := by decide +kernel
theorem dX8_cuts_2 : decode cX8_cuts 2 = .ok (.istore_n 1, 1) := by decide +kernel
theorem dX8_cuts_3 : decode cX8_cuts 3 = .ok (.iconst 0, 1) := by decide +kernel
theorem dX8_cuts_4 : decode cX8_cuts 4 = .ok (.istore_n 2, 1) := by decide +kernel
theorem dX8_cuts_5 : decode cX8_cuts 5 = .ok (.iload_n 2, 1) := by decide +kernel
theorem dX8_cuts_6 : decode cX8_cuts 6 = .ok (.aload_n 0, 1) := by decide +kernel
theorem dX8_cuts_7 : decode cX8_cuts 7 = .ok (.getfield 65, 3) := by decide +kernel
theorem dX8_cuts_10 : decode cX8_cuts 10 = .ok (.invokevirtual 185, 3) := by decide +kernel
theorem dX8_cuts_13 : decode cX8_cuts 13 = .ok (.if_icmp .gt 41, 3) := by decide +kernel
theorem dX8_cuts_16 : decode cX8_cuts 16 = .ok (.iload_n 2, 1) := by decide +kernel
theorem dX8_cuts_17 : decode cX8_cuts 17 = .ok (.iload_n 1, 1) := by decide +kernel
theorem dX8_cuts_18 : decode cX8_cuts 18 = .ok (.invokestatic 188, 3) := by decide +kernel
theorem dX8_cuts_21 : decode cX8_cuts 21 = .ok (.ifCond .eq 27, 3) := by decide +kernel
theorem dX8_cuts_24 : decode cX8_cuts 24 = .ok (.iload_n 2, 1) := by decide +kernel
theorem dX8_cuts_25 : decode cX8_cuts 25 = .ok (.aload_n 0, 1) := by decide +kernel
theorem dX8_cuts_26 : decode cX8_cuts 26 = .ok (.getfield 47, 3) := by decide +kernel
theorem dX8_cuts_29 : decode cX8_cuts 29 = .ok (.getfield 198, 3) := by decide +kernel
theorem dX8_cuts_32 : decode cX8_cuts 32 = .ok (.invokestatic 201, 3) := by decide +kernel
theorem dX8_cuts_35 : decode cX8_cuts 35 = .ok (.ifCond .eq 13, 3) := by decide +kernel
theorem dX8_cuts_38 : decode cX8_cuts 38 = .ok (.aload_n 0, 1) := by decide +kernel
theorem dX8_cuts_39 : decode cX8_cuts 39 = .ok (.iload_n 2, 1) := by decide +kernel
theorem dX8_cuts_40 : decode cX8_cuts 40 = .ok (.invokevirtual 204, 3) := by decide +kernel
theorem dX8_cuts_43 : decode cX8_cuts 43 = .ok (.ifCond .eq 5, 3) := by decide +kernel
theorem dX8_cuts_46 : decode cX8_cuts 46 = .ok (.iload_n 2, 1) := by decide +kernel
theorem dX8_cuts_47 : decode cX8_cuts 47 = .ok (.istore_n 1, 1) := by decide +kernel
theorem dX8_cuts_48 : decode cX8_cuts 48 = .ok (.iinc 2 1, 3) := by decide +kernel
theorem dX8_cuts_51 : decode cX8_cuts 51 = .ok (.goto (-46), 3) := by decide +kernel
theorem dX8_cuts_54 : decode cX8_cuts 54 = .ok (.iload_n 1, 1) := by decide +kernel
theorem dX8_cuts_55 : decode cX8_cuts 55 = .ok (.ireturn, 1) := by decide +kernel
theorem dX8_roster_0 : decode cX8_roster 0 = .ok (.iload_n 1, 1) := by decide +kernel
theorem dX8_roster_1 : decode cX8_roster 1 = .ok (.iconst 1, 1) := by decide +kernel
theorem dX8_roster_2 : decode cX8_roster 2 = .ok (.if_icmp .lt 24, 3) := by decide +kernel
theorem dX8_roster_5 : decode cX8_roster 5 = .ok (.iload_n 1, 1) := by decide +kernel
theorem dX8_roster_6 : decode cX8_roster 6 = .ok (.iconst 5, 1) := by decide +kernel
theorem dX8_roster_7 : decode cX8_roster 7 = .ok (.if_icmp .gt 19, 3) := by decide +kernel
theorem dX8_roster_10 : decode cX8_roster 10 = .ok (.iload_n 2, 1) := by decide +kernel
theorem dX8_roster_11 : decode cX8_roster 11 = .ok (.iconst (-1), 1) := by decide +kernel
theorem dX8_roster_12 : decode cX8_roster 12 = .ok (.if_icmp .eq 16, 3) := by decide +kernel
theorem dX8_roster_15 : decode cX8_roster 15 = .ok (.aload_n 0, 1) := by decide +kernel
theorem dX8_roster_16 : decode cX8_roster 16 = .ok (.getfield 65, 3) := by decide +kernel
theorem dX8_roster_19 : decode cX8_roster 19 = .ok (.iload_n 2, 1) := by decide +kernel
theorem dX8_roster_20 : decode cX8_roster 20 = .ok (.invokevirtual 116, 3) := by decide +kernel
theorem dX8_roster_23 : decode cX8_roster 23 = .ok (.ifCond .ne 5, 3) := by decide +kernel
theorem dX8_roster_26 : decode cX8_roster 26 = .ok (.iconst (-1), 1) := by decide +kernel
theorem dX8_roster_27 : decode cX8_roster 27 = .ok (.ireturn, 1) := by decide +kernel
theorem dX8_roster_28 : decode cX8_roster 28 = .ok (.iload_n 2, 1) := by decide +kernel
theorem dX8_roster_29 : decode cX8_roster 29 = .ok (.iconst (-1), 1) := by decide +kernel
theorem dX8_roster_30 : decode cX8_roster 30 = .ok (.if_icmp .eq 14, 3) := by decide +kernel
theorem dX8_roster_33 : decode cX8_roster 33 = .ok (.aload_n 0, 1) := by decide +kernel
theorem dX8_roster_34 : decode cX8_roster 34 = .ok (.getfield 47, 3) := by decide +kernel
theorem dX8_roster_37 : decode cX8_roster 37 = .ok (.iload_n 2, 1) := by decide +kernel
theorem dX8_roster_38 : decode cX8_roster 38 = .ok (.invokevirtual 134, 3) := by decide +kernel
theorem dX8_roster_41 : decode cX8_roster 41 = .ok (.ifCond .eq 22, 3) := by decide +kernel
theorem dX8_roster_44 : decode cX8_roster 44 = .ok (.aload_n 0, 1) := by decide +kernel
theorem dX8_roster_45 : decode cX8_roster 45 = .ok (.getfield 40, 3) := by decide +kernel
theorem dX8_roster_48 : decode cX8_roster 48 = .ok (.aload_n 0, 1) := by decide +kernel
theorem dX8_roster_49 : decode cX8_roster 49 = .ok (.getfield 65, 3) := by decide +kernel
theorem dX8_roster_52 : decode cX8_roster 52 = .ok (.aload_n 0, 1) := by decide +kernel
theorem dX8_roster_53 : decode cX8_roster 53 = .ok (.getfield 47, 3) := by decide +kernel
theorem dX8_roster_56 : decode cX8_roster 56 = .ok (.iload_n 1, 1) := by decide +kernel
theorem dX8_roster_57 : decode cX8_roster 57 = .ok (.invokevirtual 207, 3) := by decide +kernel
theorem dX8_roster_60 : decode cX8_roster 60 = .ok (.ifCond .ne 6, 3) := by decide +kernel
theorem dX8_roster_63 : decode cX8_roster 63 = .ok (.bipush (-4), 2) := by decide +kernel
theorem dX8_roster_65 : decode cX8_roster 65 = .ok (.ireturn, 1) := by decide +kernel
theorem dX8_roster_66 : decode cX8_roster 66 = .ok (.iload_n 2, 1) := by decide +kernel
theorem dX8_roster_67 : decode cX8_roster 67 = .ok (.iconst (-1), 1) := by decide +kernel
theorem dX8_roster_68 : decode cX8_roster 68 = .ok (.if_icmp .ne 7, 3) := by decide +kernel
theorem dX8_roster_71 : decode cX8_roster 71 = .ok (.iconst 1, 1) := by decide +kernel
theorem dX8_roster_72 : decode cX8_roster 72 = .ok (.goto 11, 3) := by decide +kernel
theorem dX8_roster_75 : decode cX8_roster 75 = .ok (.aload_n 0, 1) := by decide +kernel
theorem dX8_roster_76 : decode cX8_roster 76 = .ok (.getfield 40, 3) := by decide +kernel
theorem dX8_roster_79 : decode cX8_roster 79 = .ok (.iload_n 2, 1) := by decide +kernel
theorem dX8_roster_80 : decode cX8_roster 80 = .ok (.invokevirtual 211, 3) := by decide +kernel
theorem dX8_roster_83 : decode cX8_roster 83 = .ok (.ireturn, 1) := by decide +kernel
theorem dX8_place_0 : decode cX8_place 0 = .ok (.aload_n 0, 1) := by decide +kernel
theorem dX8_place_1 : decode cX8_place 1 = .ok (.getfield 65, 3) := by decide +kernel
theorem dX8_place_4 : decode cX8_place 4 = .ok (.iload_n 1, 1) := by decide +kernel
theorem dX8_place_5 : decode cX8_place 5 = .ok (.invokevirtual 116, 3) := by decide +kernel
theorem dX8_place_8 : decode cX8_place 8 = .ok (.ifCond .ne 5, 3) := by decide +kernel
theorem dX8_place_11 : decode cX8_place 11 = .ok (.iconst (-1), 1) := by decide +kernel
theorem dX8_place_12 : decode cX8_place 12 = .ok (.ireturn, 1) := by decide +kernel
theorem dX8_place_13 : decode cX8_place 13 = .ok (.aload_n 0, 1) := by decide +kernel
theorem dX8_place_14 : decode cX8_place 14 = .ok (.getfield 47, 3) := by decide +kernel
theorem dX8_place_17 : decode cX8_place 17 = .ok (.iload_n 1, 1) := by decide +kernel
theorem dX8_place_18 : decode cX8_place 18 = .ok (.invokevirtual 134, 3) := by decide +kernel
theorem dX8_place_21 : decode cX8_place 21 = .ok (.ifCond .eq 6, 3) := by decide +kernel
theorem dX8_place_24 : decode cX8_place 24 = .ok (.bipush (-2), 2) := by decide +kernel
theorem dX8_place_26 : decode cX8_place 26 = .ok (.ireturn, 1) := by decide +kernel
theorem dX8_place_27 : decode cX8_place 27 = .ok (.bipush (-4), 2) := by decide +kernel
theorem dX8_place_29 : decode cX8_place 29 = .ok (.istore_n 2, 1) := by decide +kernel
theorem dX8_place_30 : decode cX8_place 30 = .ok (.iconst 0, 1) := by decide +kernel
theorem dX8_place_31 : decode cX8_place 31 = .ok (.istore_n 3, 1) := by decide +kernel
theorem dX8_place_32 : decode cX8_place 32 = .ok (.iconst 0, 1) := by decide +kernel
theorem dX8_place_33 : decode cX8_place 33 = .ok (.istore 4, 2) := by decide +kernel
theorem dX8_place_35 : decode cX8_place 35 = .ok (.iload 4, 2) := by decide +kernel
theorem dX8_place_37 : decode cX8_place 37 = .ok (.aload_n 0, 1) := by decide +kernel
theorem dX8_place_38 : decode cX8_place 38 = .ok (.getfield 65, 3) := by decide +kernel
theorem dX8_place_41 : decode cX8_place 41 = .ok (.getfield 215, 3) := by decide +kernel
theorem dX8_place_44 : decode cX8_place 44 = .ok (.if_icmp .ge 46, 3) := by decide +kernel
theorem dX8_place_47 : decode cX8_place 47 = .ok (.aload_n 0, 1) := by decide +kernel
theorem dX8_place_48 : decode cX8_place 48 = .ok (.getfield 47, 3) := by decide +kernel
theorem dX8_place_51 : decode cX8_place 51 = .ok (.iload 4, 2) := by decide +kernel
theorem dX8_place_53 : decode cX8_place 53 = .ok (.invokevirtual 102, 3) := by decide +kernel
theorem dX8_place_56 : decode cX8_place 56 = .ok (.ifCond .eq 7, 3) := by decide +kernel
theorem dX8_place_59 : decode cX8_place 59 = .ok (.iconst 0, 1) := by decide +kernel
theorem dX8_place_60 : decode cX8_place 60 = .ok (.goto 10, 3) := by decide +kernel
theorem dX8_place_63 : decode cX8_place 63 = .ok (.aload_n 0, 1) := by decide +kernel
theorem dX8_place_64 : decode cX8_place 64 = .ok (.iload_n 1, 1) := by decide +kernel
theorem dX8_place_65 : decode cX8_place 65 = .ok (.iload 4, 2) := by decide +kernel
theorem dX8_place_67 : decode cX8_place 67 = .ok (.invokevirtual 218, 3) := by decide +kernel
theorem dX8_place_70 : decode cX8_place 70 = .ok (.istore 5, 2) := by decide +kernel
theorem dX8_place_72 : decode cX8_place 72 = .ok (.iload 5, 2) := by decide +kernel
theorem dX8_place_74 : decode cX8_place 74 = .ok (.iload_n 3, 1) := by decide +kernel
theorem dX8_place_75 : decode cX8_place 75 = .ok (.if_icmp .le 9, 3) := by decide +kernel
theorem dX8_place_78 : decode cX8_place 78 = .ok (.iload 4, 2) := by decide +kernel
theorem dX8_place_80 : decode cX8_place 80 = .ok (.istore_n 2, 1) := by decide +kernel
theorem dX8_place_81 : decode cX8_place 81 = .ok (.iload 5, 2) := by decide +kernel
theorem dX8_place_83 : decode cX8_place 83 = .ok (.istore_n 3, 1) := by decide +kernel
theorem dX8_place_84 : decode cX8_place 84 = .ok (.iinc 4 1, 3) := by decide +kernel
theorem dX8_place_87 : decode cX8_place 87 = .ok (.goto (-52), 3) := by decide +kernel
theorem dX8_place_90 : decode cX8_place 90 = .ok (.iload_n 2, 1) := by decide +kernel
theorem dX8_place_91 : decode cX8_place 91 = .ok (.ireturn, 1) := by decide +kernel
theorem dX8_strong_0 : decode cX8_strong 0 = .ok (.aload_n 0, 1) := by decide +kernel
theorem dX8_strong_1 : decode cX8_strong 1 = .ok (.getfield 65, 3) := by decide +kernel
theorem dX8_strong_4 : decode cX8_strong 4 = .ok (.iload_n 1, 1) := by decide +kernel
theorem dX8_strong_5 : decode cX8_strong 5 = .ok (.invokevirtual 116, 3) := by decide +kernel
theorem dX8_strong_8 : decode cX8_strong 8 = .ok (.ifCond .ne 5, 3) := by decide +kernel
theorem dX8_strong_11 : decode cX8_strong 11 = .ok (.iconst (-1), 1) := by decide +kernel
theorem dX8_strong_12 : decode cX8_strong 12 = .ok (.ireturn, 1) := by decide +kernel
theorem dX8_strong_13 : decode cX8_strong 13 = .ok (.aload_n 0, 1) := by decide +kernel
theorem dX8_strong_14 : decode cX8_strong 14 = .ok (.getfield 69, 3) := by decide +kernel
theorem dX8_strong_17 : decode cX8_strong 17 = .ok (.aload_n 0, 1) := by decide +kernel
theorem dX8_strong_18 : decode cX8_strong 18 = .ok (.getfield 65, 3) := by decide +kernel
theorem dX8_strong_21 : decode cX8_strong 21 = .ok (.invokevirtual 221, 3) := by decide +kernel
theorem dX8_strong_24 : decode cX8_strong 24 = .ok (.aload_n 0, 1) := by decide +kernel
theorem dX8_strong_25 : decode cX8_strong 25 = .ok (.iload_n 1, 1) := by decide +kernel
theorem dX8_strong_26 : decode cX8_strong 26 = .ok (.bipush 99, 2) := by decide +kernel
theorem dX8_strong_28 : decode cX8_strong 28 = .ok (.invokevirtual 225, 3) := by decide +kernel
theorem dX8_strong_31 : decode cX8_strong 31 = .ok (.istore_n 2, 1) := by decide +kernel
theorem dX8_strong_32 : decode cX8_strong 32 = .ok (.iconst 1, 1) := by decide +kernel
theorem dX8_strong_33 : decode cX8_strong 33 = .ok (.istore_n 3, 1) := by decide +kernel
theorem dX8_strong_34 : decode cX8_strong 34 = .ok (.bipush 99, 2) := by decide +kernel
theorem dX8_strong_36 : decode cX8_strong 36 = .ok (.istore 4, 2) := by decide +kernel
theorem dX8_strong_38 : decode cX8_strong 38 = .ok (.iconst 0, 1) := by decide +kernel
theorem dX8_strong_39 : decode cX8_strong 39 = .ok (.istore 5, 2) := by decide +kernel
theorem dX8_strong_41 : decode cX8_strong 41 = .ok (.iload 5, 2) := by decide +kernel
theorem dX8_strong_43 : decode cX8_strong 43 = .ok (.bipush 99, 2) := by decide +kernel
theorem dX8_strong_45 : decode cX8_strong 45 = .ok (.if_icmp .ge 46, 3) := by decide +kernel
theorem dX8_strong_48 : decode cX8_strong 48 = .ok (.iload_n 3, 1) := by decide +kernel
theorem dX8_strong_49 : decode cX8_strong 49 = .ok (.iload 4, 2) := by decide +kernel
theorem dX8_strong_51 : decode cX8_strong 51 = .ok (.if_icmp .ge 40, 3) := by decide +kernel
theorem dX8_strong_54 : decode cX8_strong 54 = .ok (.iload_n 3, 1) := by decide +kernel
theorem dX8_strong_55 : decode cX8_strong 55 = .ok (.iload 4, 2) := by decide +kernel
theorem dX8_strong_57 : decode cX8_strong 57 = .ok (.iadd, 1) := by decide +kernel
theorem dX8_strong_58 : decode cX8_strong 58 = .ok (.iconst 2, 1) := by decide +kernel
theorem dX8_strong_59 : decode cX8_strong 59 = .ok (.idiv, 1) := by decide +kernel
theorem dX8_strong_60 : decode cX8_strong 60 = .ok (.istore 6, 2) := by decide +kernel
theorem dX8_strong_62 : decode cX8_strong 62 = .ok (.aload_n 0, 1) := by decide +kernel
theorem dX8_strong_63 : decode cX8_strong 63 = .ok (.iload_n 1, 1) := by decide +kernel
theorem dX8_strong_64 : decode cX8_strong 64 = .ok (.iload 6, 2) := by decide +kernel
theorem dX8_strong_66 : decode cX8_strong 66 = .ok (.invokevirtual 225, 3) := by decide +kernel
theorem dX8_strong_69 : decode cX8_strong 69 = .ok (.iload_n 2, 1) := by decide +kernel
theorem dX8_strong_70 : decode cX8_strong 70 = .ok (.if_icmp .ne 10, 3) := by decide +kernel
theorem dX8_strong_73 : decode cX8_strong 73 = .ok (.iload 6, 2) := by decide +kernel
theorem dX8_strong_75 : decode cX8_strong 75 = .ok (.istore 4, 2) := by decide +kernel
theorem dX8_strong_77 : decode cX8_strong 77 = .ok (.goto 8, 3) := by decide +kernel
theorem dX8_strong_80 : decode cX8_strong 80 = .ok (.iload 6, 2) := by decide +kernel
theorem dX8_strong_82 : decode cX8_strong 82 = .ok (.iconst 1, 1) := by decide +kernel
theorem dX8_strong_83 : decode cX8_strong 83 = .ok (.iadd, 1) := by decide +kernel
theorem dX8_strong_84 : decode cX8_strong 84 = .ok (.istore_n 3, 1) := by decide +kernel
theorem dX8_strong_85 : decode cX8_strong 85 = .ok (.iinc 5 1, 3) := by decide +kernel
theorem dX8_strong_88 : decode cX8_strong 88 = .ok (.goto (-47), 3) := by decide +kernel
theorem dX8_strong_91 : decode cX8_strong 91 = .ok (.iload 4, 2) := by decide +kernel
theorem dX8_strong_93 : decode cX8_strong 93 = .ok (.ireturn, 1) := by decide +kernel
theorem dX8_who_0 : decode cX8_who 0 = .ok (.iload_n 1, 1) := by decide +kernel
theorem dX8_who_1 : decode cX8_who 1 = .ok (.ifCond .lt 23, 3) := by decide +kernel
theorem dX8_who_4 : decode cX8_who 4 = .ok (.iload_n 1, 1) := by decide +kernel
theorem dX8_who_5 : decode cX8_who 5 = .ok (.aload_n 0, 1) := by decide +kernel
theorem dX8_who_6 : decode cX8_who 6 = .ok (.getfield 65, 3) := by decide +kernel
theorem dX8_who_9 : decode cX8_who 9 = .ok (.invokevirtual 228, 3) := by decide +kernel
theorem dX8_who_12 : decode cX8_who 12 = .ok (.if_icmp .gt 12, 3) := by decide +kernel
theorem dX8_who_15 : decode cX8_who 15 = .ok (.iload_n 2, 1) := by decide +kernel
theorem dX8_who_16 : decode cX8_who 16 = .ok (.ifCond .lt 8, 3) := by decide +kernel
theorem dX8_who_19 : decode cX8_who 19 = .ok (.iload_n 2, 1) := by decide +kernel
theorem dX8_who_20 : decode cX8_who 20 = .ok (.iconst 1, 1) := by decide +kernel
theorem dX8_who_21 : decode cX8_who 21 = .ok (.if_icmp .le 5, 3) := by decide +kernel
theorem dX8_who_24 : decode cX8_who 24 = .ok (.iconst (-1), 1) := by decide +kernel
theorem dX8_who_25 : decode cX8_who 25 = .ok (.ireturn, 1) := by decide +kernel
theorem dX8_who_26 : decode cX8_who 26 = .ok (.iconst 0, 1) := by decide +kernel
theorem dX8_who_27 : decode cX8_who 27 = .ok (.istore_n 3, 1) := by decide +kernel
theorem dX8_who_28 : decode cX8_who 28 = .ok (.bipush (-4), 2) := by decide +kernel
theorem dX8_who_30 : decode cX8_who 30 = .ok (.istore 4, 2) := by decide +kernel
theorem dX8_who_32 : decode cX8_who 32 = .ok (.aload_n 0, 1) := by decide +kernel
theorem dX8_who_33 : decode cX8_who 33 = .ok (.getfield 65, 3) := by decide +kernel
theorem dX8_who_36 : decode cX8_who 36 = .ok (.invokevirtual 185, 3) := by decide +kernel
theorem dX8_who_39 : decode cX8_who 39 = .ok (.istore 5, 2) := by decide +kernel
theorem dX8_who_41 : decode cX8_who 41 = .ok (.iload 5, 2) := by decide +kernel
theorem dX8_who_43 : decode cX8_who 43 = .ok (.ifCond .lt 42, 3) := by decide +kernel
theorem dX8_who_46 : decode cX8_who 46 = .ok (.aload_n 0, 1) := by decide +kernel
theorem dX8_who_47 : decode cX8_who 47 = .ok (.getfield 47, 3) := by decide +kernel
theorem dX8_who_50 : decode cX8_who 50 = .ok (.aload_n 0, 1) := by decide +kernel
theorem dX8_who_51 : decode cX8_who 51 = .ok (.getfield 65, 3) := by decide +kernel
theorem dX8_who_54 : decode cX8_who 54 = .ok (.iload 5, 2) := by decide +kernel
theorem dX8_who_56 : decode cX8_who 56 = .ok (.invokevirtual 192, 3) := by decide +kernel
theorem dX8_who_59 : decode cX8_who 59 = .ok (.ifCond .eq 20, 3) := by decide +kernel
theorem dX8_who_62 : decode cX8_who 62 = .ok (.aload_n 0, 1) := by decide +kernel
theorem dX8_who_63 : decode cX8_who 63 = .ok (.iload 5, 2) := by decide +kernel
theorem dX8_who_65 : decode cX8_who 65 = .ok (.invokevirtual 231, 3) := by decide +kernel
theorem dX8_who_68 : decode cX8_who 68 = .ok (.iload_n 1, 1) := by decide +kernel
theorem dX8_who_69 : decode cX8_who 69 = .ok (.if_icmp .ne 10, 3) := by decide +kernel
theorem dX8_who_72 : decode cX8_who 72 = .ok (.iinc 3 1, 3) := by decide +kernel
theorem dX8_who_75 : decode cX8_who 75 = .ok (.iload 5, 2) := by decide +kernel
theorem dX8_who_77 : decode cX8_who 77 = .ok (.istore 4, 2) := by decide +kernel
theorem dX8_who_79 : decode cX8_who 79 = .ok (.iinc 5 (-1), 3) := by decide +kernel
theorem dX8_who_82 : decode cX8_who 82 = .ok (.goto (-41), 3) := by decide +kernel
theorem dX8_who_85 : decode cX8_who 85 = .ok (.iload_n 2, 1) := by decide +kernel
theorem dX8_who_86 : decode cX8_who 86 = .ok (.ifCond .ne 7, 3) := by decide +kernel
theorem dX8_who_89 : decode cX8_who 89 = .ok (.iload_n 3, 1) := by decide +kernel
theorem dX8_who_90 : decode cX8_who 90 = .ok (.goto 5, 3) := by decide +kernel
theorem dX8_who_93 : decode cX8_who 93 = .ok (.iload 4, 2) := by decide +kernel
theorem dX8_who_95 : decode cX8_who 95 = .ok (.ireturn, 1) := by decide +kernel
theorem dX8_knees_0 : decode cX8_knees 0 = .ok (.aload_n 0, 1) := by decide +kernel
theorem dX8_knees_1 : decode cX8_knees 1 = .ok (.getfield 65, 3) := by decide +kernel
theorem dX8_knees_4 : decode cX8_knees 4 = .ok (.iload_n 1, 1) := by decide +kernel
theorem dX8_knees_5 : decode cX8_knees 5 = .ok (.invokevirtual 116, 3) := by decide +kernel
theorem dX8_knees_8 : decode cX8_knees 8 = .ok (.ifCond .eq 14, 3) := by decide +kernel
theorem dX8_knees_11 : decode cX8_knees 11 = .ok (.iload_n 2, 1) := by decide +kernel
theorem dX8_knees_12 : decode cX8_knees 12 = .ok (.iconst 1, 1) := by decide +kernel
theorem dX8_knees_13 : decode cX8_knees 13 = .ok (.if_icmp .lt 9, 3) := by decide +kernel
theorem dX8_knees_16 : decode cX8_knees 16 = .ok (.iload_n 2, 1) := by decide +kernel
theorem dX8_knees_17 : decode cX8_knees 17 = .ok (.bipush 40, 2) := by decide +kernel
theorem dX8_knees_19 : decode cX8_knees 19 = .ok (.if_icmp .le 5, 3) := by decide +kernel
theorem dX8_knees_22 : decode cX8_knees 22 = .ok (.iconst (-1), 1) := by decide +kernel
theorem dX8_knees_23 : decode cX8_knees 23 = .ok (.ireturn, 1) := by decide +kernel
theorem dX8_knees_24 : decode cX8_knees 24 = .ok (.aload_n 0, 1) := by decide +kernel
theorem dX8_knees_25 : decode cX8_knees 25 = .ok (.getfield 47, 3) := by decide +kernel
theorem dX8_knees_28 : decode cX8_knees 28 = .ok (.iload_n 1, 1) := by decide +kernel
theorem dX8_knees_29 : decode cX8_knees 29 = .ok (.invokevirtual 134, 3) := by decide +kernel
theorem dX8_knees_32 : decode cX8_knees 32 = .ok (.ifCond .ne 6, 3) := by decide +kernel
theorem dX8_knees_35 : decode cX8_knees 35 = .ok (.bipush (-2), 2) := by decide +kernel
theorem dX8_knees_37 : decode cX8_knees 37 = .ok (.ireturn, 1) := by decide +kernel
theorem dX8_knees_38 : decode cX8_knees 38 = .ok (.aload_n 0, 1) := by decide +kernel
theorem dX8_knees_39 : decode cX8_knees 39 = .ok (.getfield 69, 3) := by decide +kernel
theorem dX8_knees_42 : decode cX8_knees 42 = .ok (.aload_n 0, 1) := by decide +kernel
theorem dX8_knees_43 : decode cX8_knees 43 = .ok (.getfield 65, 3) := by decide +kernel
theorem dX8_knees_46 : decode cX8_knees 46 = .ok (.invokevirtual 221, 3) := by decide +kernel
theorem dX8_knees_49 : decode cX8_knees 49 = .ok (.iconst 0, 1) := by decide +kernel
theorem dX8_knees_50 : decode cX8_knees 50 = .ok (.istore_n 3, 1) := by decide +kernel
theorem dX8_knees_51 : decode cX8_knees 51 = .ok (.iconst 1, 1) := by decide +kernel
theorem dX8_knees_52 : decode cX8_knees 52 = .ok (.istore 4, 2) := by decide +kernel
theorem dX8_knees_54 : decode cX8_knees 54 = .ok (.iload 4, 2) := by decide +kernel
theorem dX8_knees_56 : decode cX8_knees 56 = .ok (.bipush 30, 2) := by decide +kernel
theorem dX8_knees_58 : decode cX8_knees 58 = .ok (.if_icmp .gt 54, 3) := by decide +kernel
theorem dX8_knees_61 : decode cX8_knees 61 = .ok (.aload_n 0, 1) := by decide +kernel
theorem dX8_knees_62 : decode cX8_knees 62 = .ok (.getfield 69, 3) := by decide +kernel
theorem dX8_knees_65 : decode cX8_knees 65 = .ok (.getfield 128, 3) := by decide +kernel
theorem dX8_knees_68 : decode cX8_knees 68 = .ok (.iload_n 1, 1) := by decide +kernel
theorem dX8_knees_69 : decode cX8_knees 69 = .ok (.iload 4, 2) := by decide +kernel
theorem dX8_knees_71 : decode cX8_knees 71 = .ok (.iastore, 1) := by decide +kernel
theorem dX8_knees_72 : decode cX8_knees 72 = .ok (.aload_n 0, 1) := by decide +kernel
theorem dX8_knees_73 : decode cX8_knees 73 = .ok (.getfield 33, 3) := by decide +kernel
theorem dX8_knees_76 : decode cX8_knees 76 = .ok (.aload_n 0, 1) := by decide +kernel
theorem dX8_knees_77 : decode cX8_knees 77 = .ok (.getfield 47, 3) := by decide +kernel
theorem dX8_knees_80 : decode cX8_knees 80 = .ok (.invokevirtual 176, 3) := by decide +kernel
theorem dX8_knees_83 : decode cX8_knees 83 = .ok (.aload_n 0, 1) := by decide +kernel
theorem dX8_knees_84 : decode cX8_knees 84 = .ok (.getfield 33, 3) := by decide +kernel
theorem dX8_knees_87 : decode cX8_knees 87 = .ok (.aload_n 0, 1) := by decide +kernel
theorem dX8_knees_88 : decode cX8_knees 88 = .ok (.getfield 69, 3) := by decide +kernel
theorem dX8_knees_91 : decode cX8_knees 91 = .ok (.iload_n 1, 1) := by decide +kernel
theorem dX8_knees_92 : decode cX8_knees 92 = .ok (.iload_n 2, 1) := by decide +kernel
theorem dX8_knees_93 : decode cX8_knees 93 = .ok (.invokevirtual 234, 3) := by decide +kernel
theorem dX8_knees_96 : decode cX8_knees 96 = .ok (.ifCond .eq 10, 3) := by decide +kernel
theorem dX8_knees_99 : decode cX8_knees 99 = .ok (.iload_n 3, 1) := by decide +kernel
theorem dX8_knees_100 : decode cX8_knees 100 = .ok (.iconst 1, 1) := by decide +kernel
theorem dX8_knees_101 : decode cX8_knees 101 = .ok (.iload 4, 2) := by decide +kernel
theorem dX8_knees_103 : decode cX8_knees 103 = .ok (.ishl, 1) := by decide +kernel
theorem dX8_knees_104 : decode cX8_knees 104 = .ok (.ior, 1) := by decide +kernel
theorem dX8_knees_105 : decode cX8_knees 105 = .ok (.istore_n 3, 1) := by decide +kernel
theorem dX8_knees_106 : decode cX8_knees 106 = .ok (.iinc 4 1, 3) := by decide +kernel
theorem dX8_knees_109 : decode cX8_knees 109 = .ok (.goto (-55), 3) := by decide +kernel
theorem dX8_knees_112 : decode cX8_knees 112 = .ok (.iload_n 3, 1) := by decide +kernel
theorem dX8_knees_113 : decode cX8_knees 113 = .ok (.ireturn, 1) := by decide +kernel
theorem dX8_shirkers_0 : decode cX8_shirkers 0 = .ok (.iload_n 1, 1) := by decide +kernel
theorem dX8_shirkers_1 : decode cX8_shirkers 1 = .ok (.ifCond .lt 18, 3) := by decide +kernel
theorem dX8_shirkers_4 : decode cX8_shirkers 4 = .ok (.iload_n 1, 1) := by decide +kernel
theorem dX8_shirkers_5 : decode cX8_shirkers 5 = .ok (.bipush 10, 2) := by decide +kernel
theorem dX8_shirkers_7 : decode cX8_shirkers 7 = .ok (.if_icmp .gt 12, 3) := by decide +kernel
theorem dX8_shirkers_10 : decode cX8_shirkers 10 = .ok (.iload_n 2, 1) := by decide +kernel
theorem dX8_shirkers_11 : decode cX8_shirkers 11 = .ok (.ifCond .lt 8, 3) := by decide +kernel
theorem dX8_shirkers_14 : decode cX8_shirkers 14 = .ok (.iload_n 2, 1) := by decide +kernel
theorem dX8_shirkers_15 : decode cX8_shirkers 15 = .ok (.iconst 1, 1) := by decide +kernel
theorem dX8_shirkers_16 : decode cX8_shirkers 16 = .ok (.if_icmp .le 5, 3) := by decide +kernel
theorem dX8_shirkers_19 : decode cX8_shirkers 19 = .ok (.iconst (-1), 1) := by decide +kernel
theorem dX8_shirkers_20 : decode cX8_shirkers 20 = .ok (.ireturn, 1) := by decide +kernel
theorem dX8_shirkers_21 : decode cX8_shirkers 21 = .ok (.iconst 0, 1) := by decide +kernel
theorem dX8_shirkers_22 : decode cX8_shirkers 22 = .ok (.istore_n 3, 1) := by decide +kernel
theorem dX8_shirkers_23 : decode cX8_shirkers 23 = .ok (.bipush 10, 2) := by decide +kernel
theorem dX8_shirkers_25 : decode cX8_shirkers 25 = .ok (.aload_n 0, 1) := by decide +kernel
theorem dX8_shirkers_26 : decode cX8_shirkers 26 = .ok (.getfield 47, 3) := by decide +kernel
theorem dX8_shirkers_29 : decode cX8_shirkers 29 = .ok (.getfield 198, 3) := by decide +kernel
theorem dX8_shirkers_32 : decode cX8_shirkers 32 = .ok (.invokestatic 238, 3) := by decide +kernel
theorem dX8_shirkers_35 : decode cX8_shirkers 35 = .ok (.invokestatic 243, 3) := by decide +kernel
theorem dX8_shirkers_38 : decode cX8_shirkers 38 = .ok (.istore 4, 2) := by decide +kernel
theorem dX8_shirkers_40 : decode cX8_shirkers 40 = .ok (.iconst 0, 1) := by decide +kernel
theorem dX8_shirkers_41 : decode cX8_shirkers 41 = .ok (.istore 5, 2) := by decide +kernel
theorem dX8_shirkers_43 : decode cX8_shirkers 43 = .ok (.iload 5, 2) := by decide +kernel
theorem dX8_shirkers_45 : decode cX8_shirkers 45 = .ok (.aload_n 0, 1) := by decide +kernel
theorem dX8_shirkers_46 : decode cX8_shirkers 46 = .ok (.getfield 65, 3) := by decide +kernel
theorem dX8_shirkers_49 : decode cX8_shirkers 49 = .ok (.invokevirtual 185, 3) := by decide +kernel
theorem dX8_shirkers_52 : decode cX8_shirkers 52 = .ok (.if_icmp .gt 56, 3) := by decide +kernel
theorem dX8_shirkers_55 : decode cX8_shirkers 55 = .ok (.iload 5, 2) := by decide +kernel
theorem dX8_shirkers_57 : decode cX8_shirkers 57 = .ok (.aload_n 0, 1) := by decide +kernel
theorem dX8_shirkers_58 : decode cX8_shirkers 58 = .ok (.getfield 47, 3) := by decide +kernel
theorem dX8_shirkers_61 : decode cX8_shirkers 61 = .ok (.getfield 198, 3) := by decide +kernel
theorem dX8_shirkers_64 : decode cX8_shirkers 64 = .ok (.invokestatic 201, 3) := by decide +kernel
theorem dX8_shirkers_67 : decode cX8_shirkers 67 = .ok (.ifCond .eq 13, 3) := by decide +kernel
theorem dX8_shirkers_70 : decode cX8_shirkers 70 = .ok (.aload_n 0, 1) := by decide +kernel
theorem dX8_shirkers_71 : decode cX8_shirkers 71 = .ok (.iload 5, 2) := by decide +kernel
theorem dX8_shirkers_73 : decode cX8_shirkers 73 = .ok (.iload_n 1, 1) := by decide +kernel
theorem dX8_shirkers_74 : decode cX8_shirkers 74 = .ok (.invokevirtual 246, 3) := by decide +kernel
theorem dX8_shirkers_77 : decode cX8_shirkers 77 = .ok (.goto 4, 3) := by decide +kernel
theorem dX8_shirkers_80 : decode cX8_shirkers 80 = .ok (.iconst 0, 1) := by decide +kernel
theorem dX8_shirkers_81 : decode cX8_shirkers 81 = .ok (.istore 6, 2) := by decide +kernel
theorem dX8_shirkers_83 : decode cX8_shirkers 83 = .ok (.iload 6, 2) := by decide +kernel
theorem dX8_shirkers_85 : decode cX8_shirkers 85 = .ok (.ifCond .le 17, 3) := by decide +kernel
theorem dX8_shirkers_88 : decode cX8_shirkers 88 = .ok (.aload_n 0, 1) := by decide +kernel
theorem dX8_shirkers_89 : decode cX8_shirkers 89 = .ok (.iload 5, 2) := by decide +kernel
theorem dX8_shirkers_91 : decode cX8_shirkers 91 = .ok (.invokevirtual 249, 3) := by decide +kernel
theorem dX8_shirkers_94 : decode cX8_shirkers 94 = .ok (.ifCond .eq 8, 3) := by decide +kernel
theorem dX8_shirkers_97 : decode cX8_shirkers 97 = .ok (.iload_n 3, 1) := by decide +kernel
theorem dX8_shirkers_98 : decode cX8_shirkers 98 = .ok (.iload 6, 2) := by decide +kernel
theorem dX8_shirkers_100 : decode cX8_shirkers 100 = .ok (.iadd, 1) := by decide +kernel
theorem dX8_shirkers_101 : decode cX8_shirkers 101 = .ok (.istore_n 3, 1) := by decide +kernel
theorem dX8_shirkers_102 : decode cX8_shirkers 102 = .ok (.iinc 5 1, 3) := by decide +kernel
theorem dX8_shirkers_105 : decode cX8_shirkers 105 = .ok (.goto (-62), 3) := by decide +kernel
theorem dX8_shirkers_108 : decode cX8_shirkers 108 = .ok (.iload_n 3, 1) := by decide +kernel
theorem dX8_shirkers_109 : decode cX8_shirkers 109 = .ok (.iload 4, 2) := by decide +kernel
theorem dX8_shirkers_111 : decode cX8_shirkers 111 = .ok (.invokestatic 252, 3) := by decide +kernel
theorem dX8_shirkers_114 : decode cX8_shirkers 114 = .ok (.istore 5, 2) := by decide +kernel
theorem dX8_shirkers_116 : decode cX8_shirkers 116 = .ok (.iload_n 2, 1) := by decide +kernel
theorem dX8_shirkers_117 : decode cX8_shirkers 117 = .ok (.ifCond .ne 7, 3) := by decide +kernel
theorem dX8_shirkers_120 : decode cX8_shirkers 120 = .ok (.iload_n 3, 1) := by decide +kernel
theorem dX8_shirkers_121 : decode cX8_shirkers 121 = .ok (.goto 5, 3) := by decide +kernel
theorem dX8_shirkers_124 : decode cX8_shirkers 124 = .ok (.iload 4, 2) := by decide +kernel
theorem dX8_shirkers_126 : decode cX8_shirkers 126 = .ok (.istore 6, 2) := by decide +kernel
theorem dX8_shirkers_128 : decode cX8_shirkers 128 = .ok (.iload 5, 2) := by decide +kernel
theorem dX8_shirkers_130 : decode cX8_shirkers 130 = .ok (.ifCond .le 11, 3) := by decide +kernel
theorem dX8_shirkers_133 : decode cX8_shirkers 133 = .ok (.iload 6, 2) := by decide +kernel
theorem dX8_shirkers_135 : decode cX8_shirkers 135 = .ok (.iload 5, 2) := by decide +kernel
theorem dX8_shirkers_137 : decode cX8_shirkers 137 = .ok (.idiv, 1) := by decide +kernel
theorem dX8_shirkers_138 : decode cX8_shirkers 138 = .ok (.goto 5, 3) := by decide +kernel
theorem dX8_shirkers_141 : decode cX8_shirkers 141 = .ok (.iload 6, 2) := by decide +kernel
theorem dX8_shirkers_143 : decode cX8_shirkers 143 = .ok (.ireturn, 1) := by decide +kernel
theorem dX8_night_0 : decode cX8_night 0 = .ok (.iload_n 1, 1) := by decide +kernel
theorem dX8_night_1 : decode cX8_night 1 = .ok (.ifCond .lt 30, 3) := by decide +kernel
theorem dX8_night_4 : decode cX8_night 4 = .ok (.iload_n 1, 1) := by decide +kernel
theorem dX8_night_5 : decode cX8_night 5 = .ok (.sipush 9999, 3) := by decide +kernel
theorem dX8_night_8 : decode cX8_night 8 = .ok (.if_icmp .gt 23, 3) := by decide +kernel
theorem dX8_night_11 : decode cX8_night 11 = .ok (.iload_n 2, 1) := by decide +kernel
theorem dX8_night_12 : decode cX8_night 12 = .ok (.iconst 1, 1) := by decide +kernel
theorem dX8_night_13 : decode cX8_night 13 = .ok (.if_icmp .lt 18, 3) := by decide +kernel
theorem dX8_night_16 : decode cX8_night 16 = .ok (.iload_n 2, 1) := by decide +kernel
theorem dX8_night_17 : decode cX8_night 17 = .ok (.bipush 60, 2) := by decide +kernel
theorem dX8_night_19 : decode cX8_night 19 = .ok (.if_icmp .gt 12, 3) := by decide +kernel
theorem dX8_night_22 : decode cX8_night 22 = .ok (.iload_n 3, 1) := by decide +kernel
theorem dX8_night_23 : decode cX8_night 23 = .ok (.ifCond .lt 8, 3) := by decide +kernel
theorem dX8_night_26 : decode cX8_night 26 = .ok (.iload_n 3, 1) := by decide +kernel
theorem dX8_night_27 : decode cX8_night 27 = .ok (.iconst 1, 1) := by decide +kernel
theorem dX8_night_28 : decode cX8_night 28 = .ok (.if_icmp .le 5, 3) := by decide +kernel
theorem dX8_night_31 : decode cX8_night 31 = .ok (.iconst (-1), 1) := by decide +kernel
theorem dX8_night_32 : decode cX8_night 32 = .ok (.ireturn, 1) := by decide +kernel
theorem dX8_night_33 : decode cX8_night 33 = .ok (.aload_n 0, 1) := by decide +kernel
theorem dX8_night_34 : decode cX8_night 34 = .ok (.getfield 33, 3) := by decide +kernel
theorem dX8_night_37 : decode cX8_night 37 = .ok (.aload_n 0, 1) := by decide +kernel
theorem dX8_night_38 : decode cX8_night 38 = .ok (.getfield 47, 3) := by decide +kernel
theorem dX8_night_41 : decode cX8_night 41 = .ok (.invokevirtual 176, 3) := by decide +kernel
theorem dX8_night_44 : decode cX8_night 44 = .ok (.iconst 0, 1) := by decide +kernel
theorem dX8_night_45 : decode cX8_night 45 = .ok (.istore 4, 2) := by decide +kernel
theorem dX8_night_47 : decode cX8_night 47 = .ok (.iload 4, 2) := by decide +kernel
theorem dX8_night_49 : decode cX8_night 49 = .ok (.iload_n 2, 1) := by decide +kernel
theorem dX8_night_50 : decode cX8_night 50 = .ok (.if_icmp .ge 45, 3) := by decide +kernel
theorem dX8_night_53 : decode cX8_night 53 = .ok (.aload_n 0, 1) := by decide +kernel
theorem dX8_night_54 : decode cX8_night 54 = .ok (.getfield 33, 3) := by decide +kernel
theorem dX8_night_57 : decode cX8_night 57 = .ok (.aload_n 0, 1) := by decide +kernel
theorem dX8_night_58 : decode cX8_night 58 = .ok (.getfield 65, 3) := by decide +kernel
theorem dX8_night_61 : decode cX8_night 61 = .ok (.iload_n 1, 1) := by decide +kernel
theorem dX8_night_62 : decode cX8_night 62 = .ok (.iload 4, 2) := by decide +kernel
theorem dX8_night_64 : decode cX8_night 64 = .ok (.invokestatic 255, 3) := by decide +kernel
theorem dX8_night_67 : decode cX8_night 67 = .ok (.invokevirtual 258, 3) := by decide +kernel
theorem dX8_night_70 : decode cX8_night 70 = .ok (.aload_n 0, 1) := by decide +kernel
theorem dX8_night_71 : decode cX8_night 71 = .ok (.getfield 26, 3) := by decide +kernel
theorem dX8_night_74 : decode cX8_night 74 = .ok (.aload_n 0, 1) := by decide +kernel
theorem dX8_night_75 : decode cX8_night 75 = .ok (.getfield 65, 3) := by decide +kernel
theorem dX8_night_78 : decode cX8_night 78 = .ok (.aload_n 0, 1) := by decide +kernel
theorem dX8_night_79 : decode cX8_night 79 = .ok (.getfield 33, 3) := by decide +kernel
theorem dX8_night_82 : decode cX8_night 82 = .ok (.getfield 262, 3) := by decide +kernel
theorem dX8_night_85 : decode cX8_night 85 = .ok (.invokevirtual 147, 3) := by decide +kernel
theorem dX8_night_88 : decode cX8_night 88 = .ok (.pop, 1) := by decide +kernel
theorem dX8_night_89 : decode cX8_night 89 = .ok (.iinc 4 1, 3) := by decide +kernel
theorem dX8_night_92 : decode cX8_night 92 = .ok (.goto (-45), 3) := by decide +kernel
theorem dX8_night_95 : decode cX8_night 95 = .ok (.iload_n 3, 1) := by decide +kernel
theorem dX8_night_96 : decode cX8_night 96 = .ok (.ifCond .ne 16, 3) := by decide +kernel
theorem dX8_night_99 : decode cX8_night 99 = .ok (.aload_n 0, 1) := by decide +kernel
theorem dX8_night_100 : decode cX8_night 100 = .ok (.getfield 33, 3) := by decide +kernel
theorem dX8_night_103 : decode cX8_night 103 = .ok (.getfield 262, 3) := by decide +kernel
theorem dX8_night_106 : decode cX8_night 106 = .ok (.getfield 265, 3) := by decide +kernel
theorem dX8_night_109 : decode cX8_night 109 = .ok (.goto 13, 3) := by decide +kernel
theorem dX8_night_112 : decode cX8_night 112 = .ok (.aload_n 0, 1) := by decide +kernel
theorem dX8_night_113 : decode cX8_night 113 = .ok (.getfield 33, 3) := by decide +kernel
theorem dX8_night_116 : decode cX8_night 116 = .ok (.getfield 262, 3) := by decide +kernel
theorem dX8_night_119 : decode cX8_night 119 = .ok (.getfield 198, 3) := by decide +kernel
theorem dX8_night_122 : decode cX8_night 122 = .ok (.invokestatic 238, 3) := by decide +kernel
theorem dX8_night_125 : decode cX8_night 125 = .ok (.ireturn, 1) := by decide +kernel
theorem dX8_keep_0 : decode cX8_keep 0 = .ok (.aload_n 0, 1) := by decide +kernel
theorem dX8_keep_1 : decode cX8_keep 1 = .ok (.getfield 268, 3) := by decide +kernel
theorem dX8_keep_4 : decode cX8_keep 4 = .ok (.iconst 2, 1) := by decide +kernel
theorem dX8_keep_5 : decode cX8_keep 5 = .ok (.if_icmp .lt 6, 3) := by decide +kernel
theorem dX8_keep_8 : decode cX8_keep 8 = .ok (.bipush (-3), 2) := by decide +kernel
theorem dX8_keep_10 : decode cX8_keep 10 = .ok (.ireturn, 1) := by decide +kernel
theorem dX8_keep_11 : decode cX8_keep 11 = .ok (.aload_n 0, 1) := by decide +kernel
theorem dX8_keep_12 : decode cX8_keep 12 = .ok (.getfield 58, 3) := by decide +kernel
theorem dX8_keep_15 : decode cX8_keep 15 = .ok (.aload_n 0, 1) := by decide +kernel
theorem dX8_keep_16 : decode cX8_keep 16 = .ok (.getfield 268, 3) := by decide +kernel
theorem dX8_keep_19 : decode cX8_keep 19 = .ok (.aaload, 1) := by decide +kernel
theorem dX8_keep_20 : decode cX8_keep 20 = .ok (.aload_n 0, 1) := by decide +kernel
theorem dX8_keep_21 : decode cX8_keep 21 = .ok (.getfield 47, 3) := by decide +kernel
theorem dX8_keep_24 : decode cX8_keep 24 = .ok (.invokevirtual 271, 3) := by decide +kernel
theorem dX8_keep_27 : decode cX8_keep 27 = .ok (.aload_n 0, 1) := by decide +kernel
theorem dX8_keep_28 : decode cX8_keep 28 = .ok (.dup, 1) := by decide +kernel
theorem dX8_keep_29 : decode cX8_keep 29 = .ok (.getfield 268, 3) := by decide +kernel
theorem dX8_keep_32 : decode cX8_keep 32 = .ok (.iconst 1, 1) := by decide +kernel
theorem dX8_keep_33 : decode cX8_keep 33 = .ok (.iadd, 1) := by decide +kernel
theorem dX8_keep_34 : decode cX8_keep 34 = .ok (.putfield 268, 3) := by decide +kernel
theorem dX8_keep_37 : decode cX8_keep 37 = .ok (.aload_n 0, 1) := by decide +kernel
theorem dX8_keep_38 : decode cX8_keep 38 = .ok (.getfield 268, 3) := by decide +kernel
theorem dX8_keep_41 : decode cX8_keep 41 = .ok (.ireturn, 1) := by decide +kernel
theorem dX8_back_0 : decode cX8_back 0 = .ok (.aload_n 0, 1) := by decide +kernel
theorem dX8_back_1 : decode cX8_back 1 = .ok (.getfield 268, 3) := by decide +kernel
theorem dX8_back_4 : decode cX8_back 4 = .ok (.ifCond .gt 6, 3) := by decide +kernel
theorem dX8_back_7 : decode cX8_back 7 = .ok (.bipush (-2), 2) := by decide +kernel
theorem dX8_back_9 : decode cX8_back 9 = .ok (.ireturn, 1) := by decide +kernel
theorem dX8_back_10 : decode cX8_back 10 = .ok (.aload_n 0, 1) := by decide +kernel
theorem dX8_back_11 : decode cX8_back 11 = .ok (.dup, 1) := by decide +kernel
theorem dX8_back_12 : decode cX8_back 12 = .ok (.getfield 268, 3) := by decide +kernel
theorem dX8_back_15 : decode cX8_back 15 = .ok (.iconst 1, 1) := by decide +kernel
theorem dX8_back_16 : decode cX8_back 16 = .ok (.isub, 1) := by decide +kernel
theorem dX8_back_17 : decode cX8_back 17 = .ok (.putfield 268, 3) := by decide +kernel
theorem dX8_back_20 : decode cX8_back 20 = .ok (.aload_n 0, 1) := by decide +kernel
theorem dX8_back_21 : decode cX8_back 21 = .ok (.getfield 47, 3) := by decide +kernel
theorem dX8_back_24 : decode cX8_back 24 = .ok (.aload_n 0, 1) := by decide +kernel
theorem dX8_back_25 : decode cX8_back 25 = .ok (.getfield 58, 3) := by decide +kernel
theorem dX8_back_28 : decode cX8_back 28 = .ok (.aload_n 0, 1) := by decide +kernel
theorem dX8_back_29 : decode cX8_back 29 = .ok (.getfield 268, 3) := by decide +kernel
theorem dX8_back_32 : decode cX8_back 32 = .ok (.aaload, 1) := by decide +kernel
theorem dX8_back_33 : decode cX8_back 33 = .ok (.invokevirtual 271, 3) := by decide +kernel
theorem dX8_back_36 : decode cX8_back 36 = .ok (.aload_n 0, 1) := by decide +kernel
theorem dX8_back_37 : decode cX8_back 37 = .ok (.getfield 54, 3) := by decide +kernel
theorem dX8_back_40 : decode cX8_back 40 = .ok (.invokevirtual 273, 3) := by decide +kernel
theorem dX8_back_43 : decode cX8_back 43 = .ok (.aload_n 0, 1) := by decide +kernel
theorem dX8_back_44 : decode cX8_back 44 = .ok (.getfield 268, 3) := by decide +kernel
theorem dX8_back_47 : decode cX8_back 47 = .ok (.ireturn, 1) := by decide +kernel
theorem dX8_count_0 : decode cX8_count 0 = .ok (.iload_n 1, 1) := by decide +kernel
theorem dX8_count_1 : decode cX8_count 1 = .ok (.tableswitch 137 0 8 #[51, 59, 67, 75, 86, 105, 116, 124, 129], 51) := by decide +kernel
theorem dX8_count_52 : decode cX8_count 52 = .ok (.aload_n 0, 1) := by decide +kernel
theorem dX8_count_53 : decode cX8_count 53 = .ok (.getfield 65, 3) := by decide +kernel
theorem dX8_count_56 : decode cX8_count 56 = .ok (.getfield 215, 3) := by decide +kernel
theorem dX8_count_59 : decode cX8_count 59 = .ok (.ireturn, 1) := by decide +kernel
theorem dX8_count_60 : decode cX8_count 60 = .ok (.aload_n 0, 1) := by decide +kernel
theorem dX8_count_61 : decode cX8_count 61 = .ok (.getfield 65, 3) := by decide +kernel
theorem dX8_count_64 : decode cX8_count 64 = .ok (.getfield 276, 3) := by decide +kernel
theorem dX8_count_67 : decode cX8_count 67 = .ok (.ireturn, 1) := by decide +kernel
theorem dX8_count_68 : decode cX8_count 68 = .ok (.aload_n 0, 1) := by decide +kernel
theorem dX8_count_69 : decode cX8_count 69 = .ok (.getfield 47, 3) := by decide +kernel
theorem dX8_count_72 : decode cX8_count 72 = .ok (.getfield 137, 3) := by decide +kernel
theorem dX8_count_75 : decode cX8_count 75 = .ok (.ireturn, 1) := by decide +kernel
theorem dX8_count_76 : decode cX8_count 76 = .ok (.aload_n 0, 1) := by decide +kernel
theorem dX8_count_77 : decode cX8_count 77 = .ok (.getfield 47, 3) := by decide +kernel
theorem dX8_count_80 : decode cX8_count 80 = .ok (.getfield 198, 3) := by decide +kernel
theorem dX8_count_83 : decode cX8_count 83 = .ok (.invokestatic 238, 3) := by decide +kernel
theorem dX8_count_86 : decode cX8_count 86 = .ok (.ireturn, 1) := by decide +kernel
theorem dX8_count_87 : decode cX8_count 87 = .ok (.aload_n 0, 1) := by decide +kernel
theorem dX8_count_88 : decode cX8_count 88 = .ok (.getfield 26, 3) := by decide +kernel
theorem dX8_count_91 : decode cX8_count 91 = .ok (.aload_n 0, 1) := by decide +kernel
theorem dX8_count_92 : decode cX8_count 92 = .ok (.getfield 65, 3) := by decide +kernel
theorem dX8_count_95 : decode cX8_count 95 = .ok (.aload_n 0, 1) := by decide +kernel
theorem dX8_count_96 : decode cX8_count 96 = .ok (.getfield 47, 3) := by decide +kernel
theorem dX8_count_99 : decode cX8_count 99 = .ok (.invokevirtual 279, 3) := by decide +kernel
theorem dX8_count_102 : decode cX8_count 102 = .ok (.invokestatic 238, 3) := by decide +kernel
theorem dX8_count_105 : decode cX8_count 105 = .ok (.ireturn, 1) := by decide +kernel
theorem dX8_count_106 : decode cX8_count 106 = .ok (.aload_n 0, 1) := by decide +kernel
theorem dX8_count_107 : decode cX8_count 107 = .ok (.getfield 47, 3) := by decide +kernel
theorem dX8_count_110 : decode cX8_count 110 = .ok (.getfield 265, 3) := by decide +kernel
theorem dX8_count_113 : decode cX8_count 113 = .ok (.invokestatic 238, 3) := by decide +kernel
theorem dX8_count_116 : decode cX8_count 116 = .ok (.ireturn, 1) := by decide +kernel
theorem dX8_count_117 : decode cX8_count 117 = .ok (.aload_n 0, 1) := by decide +kernel
theorem dX8_count_118 : decode cX8_count 118 = .ok (.getfield 54, 3) := by decide +kernel
theorem dX8_count_121 : decode cX8_count 121 = .ok (.getfield 173, 3) := by decide +kernel
theorem dX8_count_124 : decode cX8_count 124 = .ok (.ireturn, 1) := by decide +kernel
theorem dX8_count_125 : decode cX8_count 125 = .ok (.aload_n 0, 1) := by decide +kernel
theorem dX8_count_126 : decode cX8_count 126 = .ok (.getfield 268, 3) := by decide +kernel
theorem dX8_count_129 : decode cX8_count 129 = .ok (.ireturn, 1) := by decide +kernel
theorem dX8_count_130 : decode cX8_count 130 = .ok (.aload_n 0, 1) := by decide +kernel
theorem dX8_count_131 : decode cX8_count 131 = .ok (.getfield 10, 3) := by decide +kernel
theorem dX8_count_134 : decode cX8_count 134 = .ok (.getfield 91, 3) := by decide +kernel
theorem dX8_count_137 : decode cX8_count 137 = .ok (.ireturn, 1) := by decide +kernel
theorem dX8_count_138 : decode cX8_count 138 = .ok (.iconst (-1), 1) := by decide +kernel
theorem dX8_count_139 : decode cX8_count 139 = .ok (.ireturn, 1) := by decide +kernel
theorem dX8_layText_0 : decode cX8_layText 0 = .ok (.aload_n 0, 1) := by decide +kernel
theorem dX8_layText_1 : decode cX8_layText 1 = .ok (.getfield 19, 3) := by decide +kernel
theorem dX8_layText_4 : decode cX8_layText 4 = .ok (.aload_n 0, 1) := by decide +kernel
theorem dX8_layText_5 : decode cX8_layText 5 = .ok (.getfield 10, 3) := by decide +kernel
theorem dX8_layText_8 : decode cX8_layText 8 = .ok (.aload_n 0, 1) := by decide +kernel
theorem dX8_layText_9 : decode cX8_layText 9 = .ok (.getfield 69, 3) := by decide +kernel
theorem dX8_layText_12 : decode cX8_layText 12 = .ok (.invokevirtual 94, 3) := by decide +kernel
theorem dX8_layText_15 : decode cX8_layText 15 = .ok (.bipush (-4), 2) := by decide +kernel
theorem dX8_layText_17 : decode cX8_layText 17 = .ok (.if_icmp .ne 13, 3) := by decide +kernel
theorem dX8_layText_20 : decode cX8_layText 20 = .ok (.aload_n 0, 1) := by decide +kernel
theorem dX8_layText_21 : decode cX8_layText 21 = .ok (.getfield 69, 3) := by decide +kernel
theorem dX8_layText_24 : decode cX8_layText 24 = .ok (.getfield 215, 3) := by decide +kernel
theorem dX8_layText_27 : decode cX8_layText 27 = .ok (.ifCond .ne 6, 3) := by decide +kernel
theorem dX8_layText_30 : decode cX8_layText 30 = .ok (.bipush (-2), 2) := by decide +kernel
theorem dX8_layText_32 : decode cX8_layText 32 = .ok (.ireturn, 1) := by decide +kernel
theorem dX8_layText_33 : decode cX8_layText 33 = .ok (.aload_n 0, 1) := by decide +kernel
theorem dX8_layText_34 : decode cX8_layText 34 = .ok (.getfield 65, 3) := by decide +kernel
theorem dX8_layText_37 : decode cX8_layText 37 = .ok (.astore_n 1, 1) := by decide +kernel
theorem dX8_layText_38 : decode cX8_layText 38 = .ok (.aload_n 0, 1) := by decide +kernel
theorem dX8_layText_39 : decode cX8_layText 39 = .ok (.aload_n 0, 1) := by decide +kernel
theorem dX8_layText_40 : decode cX8_layText 40 = .ok (.getfield 69, 3) := by decide +kernel
theorem dX8_layText_43 : decode cX8_layText 43 = .ok (.putfield 65, 3) := by decide +kernel
theorem dX8_layText_46 : decode cX8_layText 46 = .ok (.aload_n 0, 1) := by decide +kernel
theorem dX8_layText_47 : decode cX8_layText 47 = .ok (.aload_n 1, 1) := by decide +kernel
theorem dX8_layText_48 : decode cX8_layText 48 = .ok (.putfield 69, 3) := by decide +kernel
theorem dX8_layText_51 : decode cX8_layText 51 = .ok (.aload_n 0, 1) := by decide +kernel
theorem dX8_layText_52 : decode cX8_layText 52 = .ok (.getfield 47, 3) := by decide +kernel
theorem dX8_layText_55 : decode cX8_layText 55 = .ok (.aload_n 0, 1) := by decide +kernel
theorem dX8_layText_56 : decode cX8_layText 56 = .ok (.getfield 65, 3) := by decide +kernel
theorem dX8_layText_59 : decode cX8_layText 59 = .ok (.invokevirtual 282, 3) := by decide +kernel
theorem dX8_layText_62 : decode cX8_layText 62 = .ok (.aload_n 0, 1) := by decide +kernel
theorem dX8_layText_63 : decode cX8_layText 63 = .ok (.getfield 54, 3) := by decide +kernel
theorem dX8_layText_66 : decode cX8_layText 66 = .ok (.invokevirtual 273, 3) := by decide +kernel
theorem dX8_layText_69 : decode cX8_layText 69 = .ok (.aload_n 0, 1) := by decide +kernel
theorem dX8_layText_70 : decode cX8_layText 70 = .ok (.iconst 0, 1) := by decide +kernel
theorem dX8_layText_71 : decode cX8_layText 71 = .ok (.putfield 268, 3) := by decide +kernel
theorem dX8_layText_74 : decode cX8_layText 74 = .ok (.aload_n 0, 1) := by decide +kernel
theorem dX8_layText_75 : decode cX8_layText 75 = .ok (.getfield 65, 3) := by decide +kernel
theorem dX8_layText_78 : decode cX8_layText 78 = .ok (.getfield 215, 3) := by decide +kernel
theorem dX8_layText_81 : decode cX8_layText 81 = .ok (.ireturn, 1) := by decide +kernel
theorem dX8_standingBay_0 : decode cX8_standingBay 0 = .ok (.aload_n 0, 1) := by decide +kernel
theorem dX8_standingBay_1 : decode cX8_standingBay 1 = .ok (.getfield 26, 3) := by decide +kernel
theorem dX8_standingBay_4 : decode cX8_standingBay 4 = .ok (.aload_n 0, 1) := by decide +kernel
theorem dX8_standingBay_5 : decode cX8_standingBay 5 = .ok (.getfield 65, 3) := by decide +kernel
theorem dX8_standingBay_8 : decode cX8_standingBay 8 = .ok (.aload_n 0, 1) := by decide +kernel
theorem dX8_standingBay_9 : decode cX8_standingBay 9 = .ok (.getfield 47, 3) := by decide +kernel
theorem dX8_standingBay_12 : decode cX8_standingBay 12 = .ok (.invokevirtual 279, 3) := by decide +kernel
theorem dX8_standingBay_15 : decode cX8_standingBay 15 = .ok (.istore_n 3, 1) := by decide +kernel
theorem dX8_standingBay_16 : decode cX8_standingBay 16 = .ok (.iload_n 2, 1) := by decide +kernel
theorem dX8_standingBay_17 : decode cX8_standingBay 17 = .ok (.tableswitch 61 2 4 #[27, 37, 47], 27) := by decide +kernel
theorem dX8_standingBay_44 : decode cX8_standingBay 44 = .ok (.aload_n 0, 1) := by decide +kernel
theorem dX8_standingBay_45 : decode cX8_standingBay 45 = .ok (.getfield 26, 3) := by decide +kernel
theorem dX8_standingBay_48 : decode cX8_standingBay 48 = .ok (.getfield 285, 3) := by decide +kernel
theorem dX8_standingBay_51 : decode cX8_standingBay 51 = .ok (.iload_n 1, 1) := by decide +kernel
theorem dX8_standingBay_52 : decode cX8_standingBay 52 = .ok (.iaload, 1) := by decide +kernel
theorem dX8_standingBay_53 : decode cX8_standingBay 53 = .ok (.ireturn, 1) := by decide +kernel
theorem dX8_standingBay_54 : decode cX8_standingBay 54 = .ok (.aload_n 0, 1) := by decide +kernel
theorem dX8_standingBay_55 : decode cX8_standingBay 55 = .ok (.getfield 26, 3) := by decide +kernel
theorem dX8_standingBay_58 : decode cX8_standingBay 58 = .ok (.getfield 288, 3) := by decide +kernel
theorem dX8_standingBay_61 : decode cX8_standingBay 61 = .ok (.iload_n 1, 1) := by decide +kernel
theorem dX8_standingBay_62 : decode cX8_standingBay 62 = .ok (.iaload, 1) := by decide +kernel
theorem dX8_standingBay_63 : decode cX8_standingBay 63 = .ok (.ireturn, 1) := by decide +kernel
theorem dX8_standingBay_64 : decode cX8_standingBay 64 = .ok (.iload_n 3, 1) := by decide +kernel
theorem dX8_standingBay_65 : decode cX8_standingBay 65 = .ok (.iload_n 1, 1) := by decide +kernel
theorem dX8_standingBay_66 : decode cX8_standingBay 66 = .ok (.invokestatic 291, 3) := by decide +kernel
theorem dX8_standingBay_69 : decode cX8_standingBay 69 = .ok (.ifCond .eq 7, 3) := by decide +kernel
theorem dX8_standingBay_72 : decode cX8_standingBay 72 = .ok (.iconst 1, 1) := by decide +kernel
theorem dX8_standingBay_73 : decode cX8_standingBay 73 = .ok (.goto 4, 3) := by decide +kernel
theorem dX8_standingBay_76 : decode cX8_standingBay 76 = .ok (.iconst 0, 1) := by decide +kernel
theorem dX8_standingBay_77 : decode cX8_standingBay 77 = .ok (.ireturn, 1) := by decide +kernel
theorem dX8_standingBay_78 : decode cX8_standingBay 78 = .ok (.aload_n 0, 1) := by decide +kernel
theorem dX8_standingBay_79 : decode cX8_standingBay 79 = .ok (.getfield 47, 3) := by decide +kernel
theorem dX8_standingBay_82 : decode cX8_standingBay 82 = .ok (.getfield 294, 3) := by decide +kernel
theorem dX8_standingBay_85 : decode cX8_standingBay 85 = .ok (.iload_n 1, 1) := by decide +kernel
theorem dX8_standingBay_86 : decode cX8_standingBay 86 = .ok (.iaload, 1) := by decide +kernel
theorem dX8_standingBay_87 : decode cX8_standingBay 87 = .ok (.ireturn, 1) := by decide +kernel
theorem dX8_wouldHold_0 : decode cX8_wouldHold 0 = .ok (.aload_n 0, 1) := by decide +kernel
theorem dX8_wouldHold_1 : decode cX8_wouldHold 1 = .ok (.getfield 33, 3) := by decide +kernel
theorem dX8_wouldHold_4 : decode cX8_wouldHold 4 = .ok (.aload_n 0, 1) := by decide +kernel
theorem dX8_wouldHold_5 : decode cX8_wouldHold 5 = .ok (.getfield 47, 3) := by decide +kernel
theorem dX8_wouldHold_8 : decode cX8_wouldHold 8 = .ok (.invokevirtual 176, 3) := by decide +kernel
theorem dX8_wouldHold_11 : decode cX8_wouldHold 11 = .ok (.aload_n 0, 1) := by decide +kernel
theorem dX8_wouldHold_12 : decode cX8_wouldHold 12 = .ok (.getfield 33, 3) := by decide +kernel
theorem dX8_wouldHold_15 : decode cX8_wouldHold 15 = .ok (.getfield 262, 3) := by decide +kernel
theorem dX8_wouldHold_18 : decode cX8_wouldHold 18 = .ok (.iload_n 1, 1) := by decide +kernel
theorem dX8_wouldHold_19 : decode cX8_wouldHold 19 = .ok (.putfield 198, 3) := by decide +kernel
theorem dX8_wouldHold_22 : decode cX8_wouldHold 22 = .ok (.aload_n 0, 1) := by decide +kernel
theorem dX8_wouldHold_23 : decode cX8_wouldHold 23 = .ok (.getfield 33, 3) := by decide +kernel
theorem dX8_wouldHold_26 : decode cX8_wouldHold 26 = .ok (.aload_n 0, 1) := by decide +kernel
theorem dX8_wouldHold_27 : decode cX8_wouldHold 27 = .ok (.getfield 65, 3) := by decide +kernel
theorem dX8_wouldHold_30 : decode cX8_wouldHold 30 = .ok (.bipush 12, 2) := by decide +kernel
theorem dX8_wouldHold_32 : decode cX8_wouldHold 32 = .ok (.invokevirtual 179, 3) := by decide +kernel
theorem dX8_wouldHold_35 : decode cX8_wouldHold 35 = .ok (.bipush (-4), 2) := by decide +kernel
theorem dX8_wouldHold_37 : decode cX8_wouldHold 37 = .ok (.if_icmp .ne 7, 3) := by decide +kernel
theorem dX8_wouldHold_40 : decode cX8_wouldHold 40 = .ok (.iconst 1, 1) := by decide +kernel
theorem dX8_wouldHold_41 : decode cX8_wouldHold 41 = .ok (.goto 4, 3) := by decide +kernel
theorem dX8_wouldHold_44 : decode cX8_wouldHold 44 = .ok (.iconst 0, 1) := by decide +kernel
theorem dX8_wouldHold_45 : decode cX8_wouldHold 45 = .ok (.ireturn, 1) := by decide +kernel
theorem dX8_wouldBreak_0 : decode cX8_wouldBreak 0 = .ok (.aload_n 0, 1) := by decide +kernel
theorem dX8_wouldBreak_1 : decode cX8_wouldBreak 1 = .ok (.getfield 33, 3) := by decide +kernel
theorem dX8_wouldBreak_4 : decode cX8_wouldBreak 4 = .ok (.aload_n 0, 1) := by decide +kernel
theorem dX8_wouldBreak_5 : decode cX8_wouldBreak 5 = .ok (.getfield 47, 3) := by decide +kernel
theorem dX8_wouldBreak_8 : decode cX8_wouldBreak 8 = .ok (.invokevirtual 176, 3) := by decide +kernel
theorem dX8_wouldBreak_11 : decode cX8_wouldBreak 11 = .ok (.aload_n 0, 1) := by decide +kernel
theorem dX8_wouldBreak_12 : decode cX8_wouldBreak 12 = .ok (.getfield 33, 3) := by decide +kernel
theorem dX8_wouldBreak_15 : decode cX8_wouldBreak 15 = .ok (.getfield 262, 3) := by decide +kernel
theorem dX8_wouldBreak_18 : decode cX8_wouldBreak 18 = .ok (.aload_n 0, 1) := by decide +kernel
theorem dX8_wouldBreak_19 : decode cX8_wouldBreak 19 = .ok (.getfield 47, 3) := by decide +kernel
theorem dX8_wouldBreak_22 : decode cX8_wouldBreak 22 = .ok (.getfield 198, 3) := by decide +kernel
theorem dX8_wouldBreak_25 : decode cX8_wouldBreak 25 = .ok (.iload_n 1, 1) := by decide +kernel
theorem dX8_wouldBreak_26 : decode cX8_wouldBreak 26 = .ok (.iconst (-1), 1) := by decide +kernel
theorem dX8_wouldBreak_27 : decode cX8_wouldBreak 27 = .ok (.ixor, 1) := by decide +kernel
theorem dX8_wouldBreak_28 : decode cX8_wouldBreak 28 = .ok (.iand, 1) := by decide +kernel
theorem dX8_wouldBreak_29 : decode cX8_wouldBreak 29 = .ok (.putfield 198, 3) := by decide +kernel
theorem dX8_wouldBreak_32 : decode cX8_wouldBreak 32 = .ok (.aload_n 0, 1) := by decide +kernel
theorem dX8_wouldBreak_33 : decode cX8_wouldBreak 33 = .ok (.getfield 33, 3) := by decide +kernel
theorem dX8_wouldBreak_36 : decode cX8_wouldBreak 36 = .ok (.aload_n 0, 1) := by decide +kernel
theorem dX8_wouldBreak_37 : decode cX8_wouldBreak 37 = .ok (.getfield 65, 3) := by decide +kernel
theorem dX8_wouldBreak_40 : decode cX8_wouldBreak 40 = .ok (.bipush 24, 2) := by decide +kernel
theorem dX8_wouldBreak_42 : decode cX8_wouldBreak 42 = .ok (.invokevirtual 179, 3) := by decide +kernel
theorem dX8_wouldBreak_45 : decode cX8_wouldBreak 45 = .ok (.bipush (-4), 2) := by decide +kernel
theorem dX8_wouldBreak_47 : decode cX8_wouldBreak 47 = .ok (.if_icmp .eq 7, 3) := by decide +kernel
theorem dX8_wouldBreak_50 : decode cX8_wouldBreak 50 = .ok (.iconst 1, 1) := by decide +kernel
theorem dX8_wouldBreak_51 : decode cX8_wouldBreak 51 = .ok (.goto 4, 3) := by decide +kernel
theorem dX8_wouldBreak_54 : decode cX8_wouldBreak 54 = .ok (.iconst 0, 1) := by decide +kernel
theorem dX8_wouldBreak_55 : decode cX8_wouldBreak 55 = .ok (.ireturn, 1) := by decide +kernel
theorem dX8_wouldBeHeld_0 : decode cX8_wouldBeHeld 0 = .ok (.aload_n 0, 1) := by decide +kernel
theorem dX8_wouldBeHeld_1 : decode cX8_wouldBeHeld 1 = .ok (.getfield 33, 3) := by decide +kernel
theorem dX8_wouldBeHeld_4 : decode cX8_wouldBeHeld 4 = .ok (.aload_n 0, 1) := by decide +kernel
theorem dX8_wouldBeHeld_5 : decode cX8_wouldBeHeld 5 = .ok (.getfield 47, 3) := by decide +kernel
theorem dX8_wouldBeHeld_8 : decode cX8_wouldBeHeld 8 = .ok (.invokevirtual 176, 3) := by decide +kernel
theorem dX8_wouldBeHeld_11 : decode cX8_wouldBeHeld 11 = .ok (.aload_n 0, 1) := by decide +kernel
theorem dX8_wouldBeHeld_12 : decode cX8_wouldBeHeld 12 = .ok (.getfield 33, 3) := by decide +kernel
theorem dX8_wouldBeHeld_15 : decode cX8_wouldBeHeld 15 = .ok (.getfield 262, 3) := by decide +kernel
theorem dX8_wouldBeHeld_18 : decode cX8_wouldBeHeld 18 = .ok (.iload_n 1, 1) := by decide +kernel
theorem dX8_wouldBeHeld_19 : decode cX8_wouldBeHeld 19 = .ok (.putfield 198, 3) := by decide +kernel
theorem dX8_wouldBeHeld_22 : decode cX8_wouldBeHeld 22 = .ok (.aload_n 0, 1) := by decide +kernel
theorem dX8_wouldBeHeld_23 : decode cX8_wouldBeHeld 23 = .ok (.getfield 26, 3) := by decide +kernel
theorem dX8_wouldBeHeld_26 : decode cX8_wouldBeHeld 26 = .ok (.aload_n 0, 1) := by decide +kernel
theorem dX8_wouldBeHeld_27 : decode cX8_wouldBeHeld 27 = .ok (.getfield 65, 3) := by decide +kernel
theorem dX8_wouldBeHeld_30 : decode cX8_wouldBeHeld 30 = .ok (.aload_n 0, 1) := by decide +kernel
theorem dX8_wouldBeHeld_31 : decode cX8_wouldBeHeld 31 = .ok (.getfield 33, 3) := by decide +kernel
theorem dX8_wouldBeHeld_34 : decode cX8_wouldBeHeld 34 = .ok (.getfield 262, 3) := by decide +kernel
theorem dX8_wouldBeHeld_37 : decode cX8_wouldBeHeld 37 = .ok (.invokevirtual 279, 3) := by decide +kernel
theorem dX8_wouldBeHeld_40 : decode cX8_wouldBeHeld 40 = .ok (.ireturn, 1) := by decide +kernel
theorem dX8_standsWithAt_0 : decode cX8_standsWithAt 0 = .ok (.aload_n 0, 1) := by decide +kernel
theorem dX8_standsWithAt_1 : decode cX8_standsWithAt 1 = .ok (.getfield 33, 3) := by decide +kernel
theorem dX8_standsWithAt_4 : decode cX8_standsWithAt 4 = .ok (.aload_n 0, 1) := by decide +kernel
theorem dX8_standsWithAt_5 : decode cX8_standsWithAt 5 = .ok (.getfield 47, 3) := by decide +kernel
theorem dX8_standsWithAt_8 : decode cX8_standsWithAt 8 = .ok (.invokevirtual 176, 3) := by decide +kernel
theorem dX8_standsWithAt_11 : decode cX8_standsWithAt 11 = .ok (.aload_n 0, 1) := by decide +kernel
theorem dX8_standsWithAt_12 : decode cX8_standsWithAt 12 = .ok (.getfield 33, 3) := by decide +kernel
theorem dX8_standsWithAt_15 : decode cX8_standsWithAt 15 = .ok (.getfield 262, 3) := by decide +kernel
theorem dX8_standsWithAt_18 : decode cX8_standsWithAt 18 = .ok (.getfield 125, 3) := by decide +kernel
theorem dX8_standsWithAt_21 : decode cX8_standsWithAt 21 = .ok (.iload_n 1, 1) := by decide +kernel
theorem dX8_standsWithAt_22 : decode cX8_standsWithAt 22 = .ok (.iload_n 2, 1) := by decide +kernel
theorem dX8_standsWithAt_23 : decode cX8_standsWithAt 23 = .ok (.iastore, 1) := by decide +kernel
theorem dX8_standsWithAt_24 : decode cX8_standsWithAt 24 = .ok (.aload_n 0, 1) := by decide +kernel
theorem dX8_standsWithAt_25 : decode cX8_standsWithAt 25 = .ok (.getfield 33, 3) := by decide +kernel
theorem dX8_standsWithAt_28 : decode cX8_standsWithAt 28 = .ok (.getfield 262, 3) := by decide +kernel
theorem dX8_standsWithAt_31 : decode cX8_standsWithAt 31 = .ok (.iload_n 1, 1) := by decide +kernel
theorem dX8_standsWithAt_32 : decode cX8_standsWithAt 32 = .ok (.invokevirtual 162, 3) := by decide +kernel
theorem dX8_standsWithAt_35 : decode cX8_standsWithAt 35 = .ok (.aload_n 0, 1) := by decide +kernel
theorem dX8_standsWithAt_36 : decode cX8_standsWithAt 36 = .ok (.getfield 33, 3) := by decide +kernel
theorem dX8_standsWithAt_39 : decode cX8_standsWithAt 39 = .ok (.aload_n 0, 1) := by decide +kernel
theorem dX8_standsWithAt_40 : decode cX8_standsWithAt 40 = .ok (.getfield 65, 3) := by decide +kernel
theorem dX8_standsWithAt_43 : decode cX8_standsWithAt 43 = .ok (.invokevirtual 297, 3) := by decide +kernel
theorem dX8_standsWithAt_46 : decode cX8_standsWithAt 46 = .ok (.ireturn, 1) := by decide +kernel
theorem dX8_standsWithStrength_0 : decode cX8_standsWithStrength 0 = .ok (.aload_n 0, 1) := by decide +kernel
theorem dX8_standsWithStrength_1 : decode cX8_standsWithStrength 1 = .ok (.getfield 69, 3) := by decide +kernel
theorem dX8_standsWithStrength_4 : decode cX8_standsWithStrength 4 = .ok (.getfield 122, 3) := by decide +kernel
theorem dX8_standsWithStrength_7 : decode cX8_standsWithStrength 7 = .ok (.iload_n 1, 1) := by decide +kernel
theorem dX8_standsWithStrength_8 : decode cX8_standsWithStrength 8 = .ok (.iload_n 2, 1) := by decide +kernel
theorem dX8_standsWithStrength_9 : decode cX8_standsWithStrength 9 = .ok (.iastore, 1) := by decide +kernel
theorem dX8_standsWithStrength_10 : decode cX8_standsWithStrength 10 = .ok (.aload_n 0, 1) := by decide +kernel
theorem dX8_standsWithStrength_11 : decode cX8_standsWithStrength 11 = .ok (.getfield 33, 3) := by decide +kernel
theorem dX8_standsWithStrength_14 : decode cX8_standsWithStrength 14 = .ok (.aload_n 0, 1) := by decide +kernel
theorem dX8_standsWithStrength_15 : decode cX8_standsWithStrength 15 = .ok (.getfield 47, 3) := by decide +kernel
theorem dX8_standsWithStrength_18 : decode cX8_standsWithStrength 18 = .ok (.invokevirtual 176, 3) := by decide +kernel
theorem dX8_standsWithStrength_21 : decode cX8_standsWithStrength 21 = .ok (.aload_n 0, 1) := by decide +kernel
theorem dX8_standsWithStrength_22 : decode cX8_standsWithStrength 22 = .ok (.getfield 33, 3) := by decide +kernel
theorem dX8_standsWithStrength_25 : decode cX8_standsWithStrength 25 = .ok (.aload_n 0, 1) := by decide +kernel
theorem dX8_standsWithStrength_26 : decode cX8_standsWithStrength 26 = .ok (.getfield 69, 3) := by decide +kernel
theorem dX8_standsWithStrength_29 : decode cX8_standsWithStrength 29 = .ok (.invokevirtual 297, 3) := by decide +kernel
theorem dX8_standsWithStrength_32 : decode cX8_standsWithStrength 32 = .ok (.ireturn, 1) := by decide +kernel
theorem dX8_shirkWeight_0 : decode cX8_shirkWeight 0 = .ok (.iload_n 1, 1) := by decide +kernel
theorem dX8_shirkWeight_1 : decode cX8_shirkWeight 1 = .ok (.invokestatic 238, 3) := by decide +kernel
theorem dX8_shirkWeight_4 : decode cX8_shirkWeight 4 = .ok (.istore_n 3, 1) := by decide +kernel
theorem dX8_shirkWeight_5 : decode cX8_shirkWeight 5 = .ok (.iload_n 2, 1) := by decide +kernel
theorem dX8_shirkWeight_6 : decode cX8_shirkWeight 6 = .ok (.iload_n 3, 1) := by decide +kernel
theorem dX8_shirkWeight_7 : decode cX8_shirkWeight 7 = .ok (.invokestatic 243, 3) := by decide +kernel
theorem dX8_shirkWeight_10 : decode cX8_shirkWeight 10 = .ok (.bipush 10, 2) := by decide +kernel
theorem dX8_shirkWeight_12 : decode cX8_shirkWeight 12 = .ok (.iload_n 2, 1) := by decide +kernel
theorem dX8_shirkWeight_13 : decode cX8_shirkWeight 13 = .ok (.isub, 1) := by decide +kernel
theorem dX8_shirkWeight_14 : decode cX8_shirkWeight 14 = .ok (.aload_n 0, 1) := by decide +kernel
theorem dX8_shirkWeight_15 : decode cX8_shirkWeight 15 = .ok (.getfield 47, 3) := by decide +kernel
theorem dX8_shirkWeight_18 : decode cX8_shirkWeight 18 = .ok (.getfield 198, 3) := by decide +kernel
theorem dX8_shirkWeight_21 : decode cX8_shirkWeight 21 = .ok (.invokestatic 238, 3) := by decide +kernel
theorem dX8_shirkWeight_24 : decode cX8_shirkWeight 24 = .ok (.iload_n 3, 1) := by decide +kernel
theorem dX8_shirkWeight_25 : decode cX8_shirkWeight 25 = .ok (.isub, 1) := by decide +kernel
theorem dX8_shirkWeight_26 : decode cX8_shirkWeight 26 = .ok (.invokestatic 243, 3) := by decide +kernel
theorem dX8_shirkWeight_29 : decode cX8_shirkWeight 29 = .ok (.imul, 1) := by decide +kernel
theorem dX8_shirkWeight_30 : decode cX8_shirkWeight 30 = .ok (.ireturn, 1) := by decide +kernel
theorem dX8_standsWithShirkers_0 : decode cX8_standsWithShirkers 0 = .ok (.aload_n 0, 1) := by decide +kernel
theorem dX8_standsWithShirkers_1 : decode cX8_standsWithShirkers 1 = .ok (.getfield 33, 3) := by decide +kernel
theorem dX8_standsWithShirkers_4 : decode cX8_standsWithShirkers 4 = .ok (.aload_n 0, 1) := by decide +kernel
theorem dX8_standsWithShirkers_5 : decode cX8_standsWithShirkers 5 = .ok (.getfield 47, 3) := by decide +kernel
theorem dX8_standsWithShirkers_8 : decode cX8_standsWithShirkers 8 = .ok (.invokevirtual 176, 3) := by decide +kernel
theorem dX8_standsWithShirkers_11 : decode cX8_standsWithShirkers 11 = .ok (.aload_n 0, 1) := by decide +kernel
theorem dX8_standsWithShirkers_12 : decode cX8_standsWithShirkers 12 = .ok (.getfield 33, 3) := by decide +kernel
theorem dX8_standsWithShirkers_15 : decode cX8_standsWithShirkers 15 = .ok (.getfield 262, 3) := by decide +kernel
theorem dX8_standsWithShirkers_18 : decode cX8_standsWithShirkers 18 = .ok (.aload_n 0, 1) := by decide +kernel
theorem dX8_standsWithShirkers_19 : decode cX8_standsWithShirkers 19 = .ok (.getfield 47, 3) := by decide +kernel
theorem dX8_standsWithShirkers_22 : decode cX8_standsWithShirkers 22 = .ok (.getfield 198, 3) := by decide +kernel
theorem dX8_standsWithShirkers_25 : decode cX8_standsWithShirkers 25 = .ok (.iload_n 1, 1) := by decide +kernel
theorem dX8_standsWithShirkers_26 : decode cX8_standsWithShirkers 26 = .ok (.iconst (-1), 1) := by decide +kernel
theorem dX8_standsWithShirkers_27 : decode cX8_standsWithShirkers 27 = .ok (.ixor, 1) := by decide +kernel
theorem dX8_standsWithShirkers_28 : decode cX8_standsWithShirkers 28 = .ok (.iand, 1) := by decide +kernel
theorem dX8_standsWithShirkers_29 : decode cX8_standsWithShirkers 29 = .ok (.putfield 198, 3) := by decide +kernel
theorem dX8_standsWithShirkers_32 : decode cX8_standsWithShirkers 32 = .ok (.aload_n 0, 1) := by decide +kernel
theorem dX8_standsWithShirkers_33 : decode cX8_standsWithShirkers 33 = .ok (.getfield 33, 3) := by decide +kernel
theorem dX8_standsWithShirkers_36 : decode cX8_standsWithShirkers 36 = .ok (.aload_n 0, 1) := by decide +kernel
theorem dX8_standsWithShirkers_37 : decode cX8_standsWithShirkers 37 = .ok (.getfield 65, 3) := by decide +kernel
theorem dX8_standsWithShirkers_40 : decode cX8_standsWithShirkers 40 = .ok (.iconst 1, 1) := by decide +kernel
theorem dX8_standsWithShirkers_41 : decode cX8_standsWithShirkers 41 = .ok (.invokevirtual 179, 3) := by decide +kernel
theorem dX8_standsWithShirkers_44 : decode cX8_standsWithShirkers 44 = .ok (.bipush (-4), 2) := by decide +kernel
theorem dX8_standsWithShirkers_46 : decode cX8_standsWithShirkers 46 = .ok (.if_icmp .eq 5, 3) := by decide +kernel
theorem dX8_standsWithShirkers_49 : decode cX8_standsWithShirkers 49 = .ok (.iconst 0, 1) := by decide +kernel
theorem dX8_standsWithShirkers_50 : decode cX8_standsWithShirkers 50 = .ok (.ireturn, 1) := by decide +kernel
theorem dX8_standsWithShirkers_51 : decode cX8_standsWithShirkers 51 = .ok (.aload_n 0, 1) := by decide +kernel
theorem dX8_standsWithShirkers_52 : decode cX8_standsWithShirkers 52 = .ok (.getfield 33, 3) := by decide +kernel
theorem dX8_standsWithShirkers_55 : decode cX8_standsWithShirkers 55 = .ok (.getfield 262, 3) := by decide +kernel
theorem dX8_standsWithShirkers_58 : decode cX8_standsWithShirkers 58 = .ok (.dup, 1) := by decide +kernel
theorem dX8_standsWithShirkers_59 : decode cX8_standsWithShirkers 59 = .ok (.getfield 198, 3) := by decide +kernel
theorem dX8_standsWithShirkers_62 : decode cX8_standsWithShirkers 62 = .ok (.iload_n 1, 1) := by decide +kernel
theorem dX8_standsWithShirkers_63 : decode cX8_standsWithShirkers 63 = .ok (.ior, 1) := by decide +kernel
theorem dX8_standsWithShirkers_64 : decode cX8_standsWithShirkers 64 = .ok (.putfield 198, 3) := by decide +kernel
theorem dX8_standsWithShirkers_67 : decode cX8_standsWithShirkers 67 = .ok (.aload_n 0, 1) := by decide +kernel
theorem dX8_standsWithShirkers_68 : decode cX8_standsWithShirkers 68 = .ok (.getfield 33, 3) := by decide +kernel
theorem dX8_standsWithShirkers_71 : decode cX8_standsWithShirkers 71 = .ok (.aload_n 0, 1) := by decide +kernel
theorem dX8_standsWithShirkers_72 : decode cX8_standsWithShirkers 72 = .ok (.getfield 65, 3) := by decide +kernel
theorem dX8_standsWithShirkers_75 : decode cX8_standsWithShirkers 75 = .ok (.bipush 11, 2) := by decide +kernel
theorem dX8_standsWithShirkers_77 : decode cX8_standsWithShirkers 77 = .ok (.invokevirtual 179, 3) := by decide +kernel
theorem dX8_standsWithShirkers_80 : decode cX8_standsWithShirkers 80 = .ok (.bipush (-4), 2) := by decide +kernel
theorem dX8_standsWithShirkers_82 : decode cX8_standsWithShirkers 82 = .ok (.if_icmp .ne 7, 3) := by decide +kernel
theorem dX8_standsWithShirkers_85 : decode cX8_standsWithShirkers 85 = .ok (.iconst 1, 1) := by decide +kernel
theorem dX8_standsWithShirkers_86 : decode cX8_standsWithShirkers 86 = .ok (.goto 4, 3) := by decide +kernel
theorem dX8_standsWithShirkers_89 : decode cX8_standsWithShirkers 89 = .ok (.iconst 0, 1) := by decide +kernel
theorem dX8_standsWithShirkers_90 : decode cX8_standsWithShirkers 90 = .ok (.ireturn, 1) := by decide +kernel
theorem dX8_hasBit_0 : decode cX8_hasBit 0 = .ok (.iload_n 0, 1) := by decide +kernel
theorem dX8_hasBit_1 : decode cX8_hasBit 1 = .ok (.iload_n 1, 1) := by decide +kernel
theorem dX8_hasBit_2 : decode cX8_hasBit 2 = .ok (.ishr, 1) := by decide +kernel
theorem dX8_hasBit_3 : decode cX8_hasBit 3 = .ok (.iconst 1, 1) := by decide +kernel
theorem dX8_hasBit_4 : decode cX8_hasBit 4 = .ok (.iand, 1) := by decide +kernel
theorem dX8_hasBit_5 : decode cX8_hasBit 5 = .ok (.iconst 1, 1) := by decide +kernel
theorem dX8_hasBit_6 : decode cX8_hasBit 6 = .ok (.if_icmp .ne 7, 3) := by decide +kernel
theorem dX8_hasBit_9 : decode cX8_hasBit 9 = .ok (.iconst 1, 1) := by decide +kernel
theorem dX8_hasBit_10 : decode cX8_hasBit 10 = .ok (.goto 4, 3) := by decide +kernel
theorem dX8_hasBit_13 : decode cX8_hasBit 13 = .ok (.iconst 0, 1) := by decide +kernel
theorem dX8_hasBit_14 : decode cX8_hasBit 14 = .ok (.ireturn, 1) := by decide +kernel
theorem dX8_isPart_0 : decode cX8_isPart 0 = .ok (.iload_n 0, 1) := by decide +kernel
theorem dX8_isPart_1 : decode cX8_isPart 1 = .ok (.iload_n 1, 1) := by decide +kernel
theorem dX8_isPart_2 : decode cX8_isPart 2 = .ok (.iconst (-1), 1) := by decide +kernel
theorem dX8_isPart_3 : decode cX8_isPart 3 = .ok (.ixor, 1) := by decide +kernel
theorem dX8_isPart_4 : decode cX8_isPart 4 = .ok (.iand, 1) := by decide +kernel
theorem dX8_isPart_5 : decode cX8_isPart 5 = .ok (.ifCond .ne 7, 3) := by decide +kernel
theorem dX8_isPart_8 : decode cX8_isPart 8 = .ok (.iconst 1, 1) := by decide +kernel
theorem dX8_isPart_9 : decode cX8_isPart 9 = .ok (.goto 4, 3) := by decide +kernel
theorem dX8_isPart_12 : decode cX8_isPart 12 = .ok (.iconst 0, 1) := by decide +kernel
theorem dX8_isPart_13 : decode cX8_isPart 13 = .ok (.ireturn, 1) := by decide +kernel
theorem dX8_isFewer_0 : decode cX8_isFewer 0 = .ok (.iload_n 1, 1) := by decide +kernel
theorem dX8_isFewer_1 : decode cX8_isFewer 1 = .ok (.bipush (-4), 2) := by decide +kernel
theorem dX8_isFewer_3 : decode cX8_isFewer 3 = .ok (.if_icmp .eq 14, 3) := by decide +kernel
theorem dX8_isFewer_6 : decode cX8_isFewer 6 = .ok (.iload_n 0, 1) := by decide +kernel
theorem dX8_isFewer_7 : decode cX8_isFewer 7 = .ok (.invokestatic 238, 3) := by decide +kernel
theorem dX8_isFewer_10 : decode cX8_isFewer 10 = .ok (.iload_n 1, 1) := by decide +kernel
theorem dX8_isFewer_11 : decode cX8_isFewer 11 = .ok (.invokestatic 238, 3) := by decide +kernel
theorem dX8_isFewer_14 : decode cX8_isFewer 14 = .ok (.if_icmp .ge 7, 3) := by decide +kernel
theorem dX8_isFewer_17 : decode cX8_isFewer 17 = .ok (.iconst 1, 1) := by decide +kernel
theorem dX8_isFewer_18 : decode cX8_isFewer 18 = .ok (.goto 4, 3) := by decide +kernel
theorem dX8_isFewer_21 : decode cX8_isFewer 21 = .ok (.iconst 0, 1) := by decide +kernel
theorem dX8_isFewer_22 : decode cX8_isFewer 22 = .ok (.ireturn, 1) := by decide +kernel
theorem dX8_draw_0 : decode cX8_draw 0 = .ok (.ldc2_w 301, 3) := by decide +kernel
theorem dX8_draw_3 : decode cX8_draw 3 = .ok (.iload_n 0, 1) := by decide +kernel
theorem dX8_draw_4 : decode cX8_draw 4 = .ok (.i2l, 1) := by decide +kernel
theorem dX8_draw_5 : decode cX8_draw 5 = .ok (.lmul, 1) := by decide +kernel
theorem dX8_draw_6 : decode cX8_draw 6 = .ok (.ldc2_w 303, 3) := by decide +kernel
theorem dX8_draw_9 : decode cX8_draw 9 = .ok (.iload_n 1, 1) := by decide +kernel
theorem dX8_draw_10 : decode cX8_draw 10 = .ok (.i2l, 1) := by decide +kernel
theorem dX8_draw_11 : decode cX8_draw 11 = .ok (.lmul, 1) := by decide +kernel
theorem dX8_draw_12 : decode cX8_draw 12 = .ok (.ladd, 1) := by decide +kernel
theorem dX8_draw_13 : decode cX8_draw 13 = .ok (.lconst 1, 1) := by decide +kernel
theorem dX8_draw_14 : decode cX8_draw 14 = .ok (.ladd, 1) := by decide +kernel
theorem dX8_draw_15 : decode cX8_draw 15 = .ok (.lstore_n 2, 1) := by decide +kernel
theorem dX8_draw_16 : decode cX8_draw 16 = .ok (.lload_n 2, 1) := by decide +kernel
theorem dX8_draw_17 : decode cX8_draw 17 = .ok (.lload_n 2, 1) := by decide +kernel
theorem dX8_draw_18 : decode cX8_draw 18 = .ok (.lmul, 1) := by decide +kernel
theorem dX8_draw_19 : decode cX8_draw 19 = .ok (.ldc2_w 305, 3) := by decide +kernel
theorem dX8_draw_22 : decode cX8_draw 22 = .ok (.lrem, 1) := by decide +kernel
theorem dX8_draw_23 : decode cX8_draw 23 = .ok (.l2i, 1) := by decide +kernel
theorem dX8_draw_24 : decode cX8_draw 24 = .ok (.ireturn, 1) := by decide +kernel
theorem dX8_power_0 : decode cX8_power 0 = .ok (.iconst 1, 1) := by decide +kernel
theorem dX8_power_1 : decode cX8_power 1 = .ok (.istore_n 2, 1) := by decide +kernel
theorem dX8_power_2 : decode cX8_power 2 = .ok (.iconst 0, 1) := by decide +kernel
theorem dX8_power_3 : decode cX8_power 3 = .ok (.istore_n 3, 1) := by decide +kernel
theorem dX8_power_4 : decode cX8_power 4 = .ok (.iload_n 3, 1) := by decide +kernel
theorem dX8_power_5 : decode cX8_power 5 = .ok (.iload_n 1, 1) := by decide +kernel
theorem dX8_power_6 : decode cX8_power 6 = .ok (.if_icmp .ge 13, 3) := by decide +kernel
theorem dX8_power_9 : decode cX8_power 9 = .ok (.iload_n 2, 1) := by decide +kernel
theorem dX8_power_10 : decode cX8_power 10 = .ok (.iload_n 0, 1) := by decide +kernel
theorem dX8_power_11 : decode cX8_power 11 = .ok (.imul, 1) := by decide +kernel
theorem dX8_power_12 : decode cX8_power 12 = .ok (.istore_n 2, 1) := by decide +kernel
theorem dX8_power_13 : decode cX8_power 13 = .ok (.iinc 3 1, 3) := by decide +kernel
theorem dX8_power_16 : decode cX8_power 16 = .ok (.goto (-12), 3) := by decide +kernel
theorem dX8_power_19 : decode cX8_power 19 = .ok (.iload_n 2, 1) := by decide +kernel
theorem dX8_power_20 : decode cX8_power 20 = .ok (.ireturn, 1) := by decide +kernel
theorem dX8_commonDivisor_0 : decode cX8_commonDivisor 0 = .ok (.iload_n 0, 1) := by decide +kernel
theorem dX8_commonDivisor_1 : decode cX8_commonDivisor 1 = .ok (.istore_n 2, 1) := by decide +kernel
theorem dX8_commonDivisor_2 : decode cX8_commonDivisor 2 = .ok (.iload_n 1, 1) := by decide +kernel
theorem dX8_commonDivisor_3 : decode cX8_commonDivisor 3 = .ok (.istore_n 3, 1) := by decide +kernel
theorem dX8_commonDivisor_4 : decode cX8_commonDivisor 4 = .ok (.iconst 0, 1) := by decide +kernel
theorem dX8_commonDivisor_5 : decode cX8_commonDivisor 5 = .ok (.istore 4, 2) := by decide +kernel
theorem dX8_commonDivisor_7 : decode cX8_commonDivisor 7 = .ok (.iload 4, 2) := by decide +kernel
theorem dX8_commonDivisor_9 : decode cX8_commonDivisor 9 = .ok (.bipush 64, 2) := by decide +kernel
theorem dX8_commonDivisor_11 : decode cX8_commonDivisor 11 = .ok (.if_icmp .ge 23, 3) := by decide +kernel
theorem dX8_commonDivisor_14 : decode cX8_commonDivisor 14 = .ok (.iload_n 3, 1) := by decide +kernel
theorem dX8_commonDivisor_15 : decode cX8_commonDivisor 15 = .ok (.ifCond .eq 19, 3) := by decide +kernel
theorem dX8_commonDivisor_18 : decode cX8_commonDivisor 18 = .ok (.iload_n 2, 1) := by decide +kernel
theorem dX8_commonDivisor_19 : decode cX8_commonDivisor 19 = .ok (.iload_n 3, 1) := by decide +kernel
theorem dX8_commonDivisor_20 : decode cX8_commonDivisor 20 = .ok (.irem, 1) := by decide +kernel
theorem dX8_commonDivisor_21 : decode cX8_commonDivisor 21 = .ok (.istore 5, 2) := by decide +kernel
theorem dX8_commonDivisor_23 : decode cX8_commonDivisor 23 = .ok (.iload_n 3, 1) := by decide +kernel
theorem dX8_commonDivisor_24 : decode cX8_commonDivisor 24 = .ok (.istore_n 2, 1) := by decide +kernel
theorem dX8_commonDivisor_25 : decode cX8_commonDivisor 25 = .ok (.iload 5, 2) := by decide +kernel
theorem dX8_commonDivisor_27 : decode cX8_commonDivisor 27 = .ok (.istore_n 3, 1) := by decide +kernel
theorem dX8_commonDivisor_28 : decode cX8_commonDivisor 28 = .ok (.iinc 4 1, 3) := by decide +kernel
theorem dX8_commonDivisor_31 : decode cX8_commonDivisor 31 = .ok (.goto (-24), 3) := by decide +kernel
theorem dX8_commonDivisor_34 : decode cX8_commonDivisor 34 = .ok (.iload_n 2, 1) := by decide +kernel
theorem dX8_commonDivisor_35 : decode cX8_commonDivisor 35 = .ok (.ireturn, 1) := by decide +kernel
end
section
theorem dX9_init_0 : decode cX9_init 0 = .ok (.aload_n 0, 1) := by decide +kernel
theorem dX9_init_1 : decode cX9_init 1 = .ok (.invokespecial 1, 3) := by decide +kernel
theorem dX9_init_4 : decode cX9_init 4 = .ok (.aload_n 0, 1) := by decide +kernel
theorem dX9_init_5 : decode cX9_init 5 = .ok (.sipush 200, 3) := by decide +kernel
theorem dX9_init_8 : decode cX9_init 8 = .ok (.newarray .int, 2) := by decide +kernel
theorem dX9_init_10 : decode cX9_init 10 = .ok (.putfield 7, 3) := by decide +kernel
theorem dX9_init_13 : decode cX9_init 13 = .ok (.aload_n 0, 1) := by decide +kernel
theorem dX9_init_14 : decode cX9_init 14 = .ok (.bipush 38, 2) := by decide +kernel
theorem dX9_init_16 : decode cX9_init 16 = .ok (.newarray .int, 2) := by decide +kernel
theorem dX9_init_18 : decode cX9_init 18 = .ok (.putfield 13, 3) := by decide +kernel
theorem dX9_init_21 : decode cX9_init 21 = .ok (.aload_n 0, 1) := by decide +kernel
theorem dX9_init_22 : decode cX9_init 22 = .ok (.bipush 38, 2) := by decide +kernel
theorem dX9_init_24 : decode cX9_init 24 = .ok (.newarray .int, 2) := by decide +kernel
theorem dX9_init_26 : decode cX9_init 26 = .ok (.putfield 16, 3) := by decide +kernel
theorem dX9_init_29 : decode cX9_init 29 = .ok (.aload_n 0, 1) := by decide +kernel
theorem dX9_init_30 : decode cX9_init 30 = .ok (.bipush 6, 2) := by decide +kernel
theorem dX9_init_32 : decode cX9_init 32 = .ok (.newarray .int, 2) := by decide +kernel
theorem dX9_init_34 : decode cX9_init 34 = .ok (.putfield 19, 3) := by decide +kernel
theorem dX9_init_37 : decode cX9_init 37 = .ok (.aload_n 0, 1) := by decide +kernel
theorem dX9_init_38 : decode cX9_init 38 = .ok (.bipush 23, 2) := by decide +kernel
theorem dX9_init_40 : decode cX9_init 40 = .ok (.newarray .int, 2) := by decide +kernel
theorem dX9_init_42 : decode cX9_init 42 = .ok (.putfield 22, 3) := by decide +kernel
theorem dX9_init_45 : decode cX9_init 45 = .ok (.aload_n 0, 1) := by decide +kernel
theorem dX9_init_46 : decode cX9_init 46 = .ok (.sipush 184, 3) := by decide +kernel
theorem dX9_init_49 : decode cX9_init 49 = .ok (.newarray .int, 2) := by decide +kernel
theorem dX9_init_51 : decode cX9_init 51 = .ok (.putfield 25, 3) := by decide +kernel
theorem dX9_init_54 : decode cX9_init 54 = .ok (.aload_n 0, 1) := by decide +kernel
theorem dX9_init_55 : decode cX9_init 55 = .ok (.bipush 46, 2) := by decide +kernel
theorem dX9_init_57 : decode cX9_init 57 = .ok (.newarray .int, 2) := by decide +kernel
theorem dX9_init_59 : decode cX9_init 59 = .ok (.putfield 28, 3) := by decide +kernel
theorem dX9_init_62 : decode cX9_init 62 = .ok (.aload_n 0, 1) := by decide +kernel
theorem dX9_init_63 : decode cX9_init 63 = .ok (.bipush 23, 2) := by decide +kernel
theorem dX9_init_65 : decode cX9_init 65 = .ok (.newarray .int, 2) := by decide +kernel
theorem dX9_init_67 : decode cX9_init 67 = .ok (.putfield 31, 3) := by decide +kernel
theorem dX9_init_70 : decode cX9_init 70 = .ok (.aload_n 0, 1) := by decide +kernel
theorem dX9_init_71 : decode cX9_init 71 = .ok (.invokevirtual 34, 3) := by decide +kernel
theorem dX9_init_74 : decode cX9_init 74 = .ok (.aload_n 0, 1) := by decide +kernel
theorem dX9_init_75 : decode cX9_init 75 = .ok (.bipush 20, 2) := by decide +kernel
theorem dX9_init_77 : decode cX9_init 77 = .ok (.iconst 3, 1) := by decide +kernel
theorem dX9_init_78 : decode cX9_init 78 = .ok (.invokevirtual 37, 3) := by decide +kernel
theorem dX9_init_81 : decode cX9_init 81 = .ok (.aload_n 0, 1) := by decide +kernel
theorem dX9_init_82 : decode cX9_init 82 = .ok (.bipush 35, 2) := by decide +kernel
theorem dX9_init_84 : decode cX9_init 84 = .ok (.iconst 2, 1) := by decide +kernel
theorem dX9_init_85 : decode cX9_init 85 = .ok (.invokevirtual 37, 3) := by decide +kernel
theorem dX9_init_88 : decode cX9_init 88 = .ok (.aload_n 0, 1) := by decide +kernel
theorem dX9_init_89 : decode cX9_init 89 = .ok (.bipush 40, 2) := by decide +kernel
theorem dX9_init_91 : decode cX9_init 91 = .ok (.iconst 2, 1) := by decide +kernel
theorem dX9_init_92 : decode cX9_init 92 = .ok (.invokevirtual 37, 3) := by decide +kernel
theorem dX9_init_95 : decode cX9_init 95 = .ok (.aload_n 0, 1) := by decide +kernel
theorem dX9_init_96 : decode cX9_init 96 = .ok (.bipush 30, 2) := by decide +kernel
theorem dX9_init_98 : decode cX9_init 98 = .ok (.iconst 4, 1) := by decide +kernel
theorem dX9_init_99 : decode cX9_init 99 = .ok (.invokevirtual 37, 3) := by decide +kernel
theorem dX9_init_102 : decode cX9_init 102 = .ok (.aload_n 0, 1) := by decide +kernel
theorem dX9_init_103 : decode cX9_init 103 = .ok (.bipush 15, 2) := by decide +kernel
theorem dX9_init_105 : decode cX9_init 105 = .ok (.bipush 6, 2) := by decide +kernel
theorem dX9_init_107 : decode cX9_init 107 = .ok (.invokevirtual 37, 3) := by decide +kernel
theorem dX9_init_110 : decode cX9_init 110 = .ok (.aload_n 0, 1) := by decide +kernel
theorem dX9_init_111 : decode cX9_init 111 = .ok (.iconst 0, 1) := by decide +kernel
theorem dX9_init_112 : decode cX9_init 112 = .ok (.bipush 25, 2) := by decide +kernel
theorem dX9_init_114 : decode cX9_init 114 = .ok (.iconst 1, 1) := by decide +kernel
theorem dX9_init_115 : decode cX9_init 115 = .ok (.bipush 10, 2) := by decide +kernel
theorem dX9_init_117 : decode cX9_init 117 = .ok (.invokevirtual 41, 3) := by decide +kernel
theorem dX9_init_120 : decode cX9_init 120 = .ok (.aload_n 0, 1) := by decide +kernel
theorem dX9_init_121 : decode cX9_init 121 = .ok (.iconst 1, 1) := by decide +kernel
theorem dX9_init_122 : decode cX9_init 122 = .ok (.bipush 15, 2) := by decide +kernel
theorem dX9_init_124 : decode cX9_init 124 = .ok (.iconst 0, 1) := by decide +kernel
theorem dX9_init_125 : decode cX9_init 125 = .ok (.bipush 6, 2) := by decide +kernel
theorem dX9_init_127 : decode cX9_init 127 = .ok (.invokevirtual 41, 3) := by decide +kernel
theorem dX9_init_130 : decode cX9_init 130 = .ok (.aload_n 0, 1) := by decide +kernel
theorem dX9_init_131 : decode cX9_init 131 = .ok (.iconst 2, 1) := by decide +kernel
theorem dX9_init_132 : decode cX9_init 132 = .ok (.bipush 30, 2) := by decide +kernel
theorem dX9_init_134 : decode cX9_init 134 = .ok (.iconst 2, 1) := by decide +kernel
theorem dX9_init_135 : decode cX9_init 135 = .ok (.bipush 8, 2) := by decide +kernel
theorem dX9_init_137 : decode cX9_init 137 = .ok (.invokevirtual 41, 3) := by decide +kernel
theorem dX9_init_140 : decode cX9_init 140 = .ok (.aload_n 0, 1) := by decide +kernel
theorem dX9_init_141 : decode cX9_init 141 = .ok (.iconst 3, 1) := by decide +kernel
theorem dX9_init_142 : decode cX9_init 142 = .ok (.bipush 20, 2) := by decide +kernel
theorem dX9_init_144 : decode cX9_init 144 = .ok (.iconst 3, 1) := by decide +kernel
theorem dX9_init_145 : decode cX9_init 145 = .ok (.bipush 12, 2) := by decide +kernel
theorem dX9_init_147 : decode cX9_init 147 = .ok (.invokevirtual 41, 3) := by decide +kernel
theorem dX9_init_150 : decode cX9_init 150 = .ok (.aload_n 0, 1) := by decide +kernel
theorem dX9_init_151 : decode cX9_init 151 = .ok (.iconst 0, 1) := by decide +kernel
theorem dX9_init_152 : decode cX9_init 152 = .ok (.bipush 18, 2) := by decide +kernel
theorem dX9_init_154 : decode cX9_init 154 = .ok (.iconst 4, 1) := by decide +kernel
theorem dX9_init_155 : decode cX9_init 155 = .ok (.bipush 9, 2) := by decide +kernel
theorem dX9_init_157 : decode cX9_init 157 = .ok (.invokevirtual 41, 3) := by decide +kernel
theorem dX9_init_160 : decode cX9_init 160 = .ok (.aload_n 0, 1) := by decide +kernel
theorem dX9_init_161 : decode cX9_init 161 = .ok (.iconst 2, 1) := by decide +kernel
theorem dX9_init_162 : decode cX9_init 162 = .ok (.bipush 22, 2) := by decide +kernel
theorem dX9_init_164 : decode cX9_init 164 = .ok (.iconst 1, 1) := by decide +kernel
theorem dX9_init_165 : decode cX9_init 165 = .ok (.bipush 7, 2) := by decide +kernel
theorem dX9_init_167 : decode cX9_init 167 = .ok (.invokevirtual 41, 3) := by decide +kernel
theorem dX9_init_170 : decode cX9_init 170 = .ok (.aload_n 0, 1) := by decide +kernel
theorem dX9_init_171 : decode cX9_init 171 = .ok (.getfield 16, 3) := by decide +kernel
theorem dX9_init_174 : decode cX9_init 174 = .ok (.iconst 2, 1) := by decide +kernel
theorem dX9_init_175 : decode cX9_init 175 = .ok (.iconst 4, 1) := by decide +kernel
theorem dX9_init_176 : decode cX9_init 176 = .ok (.iastore, 1) := by decide +kernel
theorem dX9_init_177 : decode cX9_init 177 = .ok (.aload_n 0, 1) := by decide +kernel
theorem dX9_init_178 : decode cX9_init 178 = .ok (.getfield 16, 3) := by decide +kernel
theorem dX9_init_181 : decode cX9_init 181 = .ok (.iconst 3, 1) := by decide +kernel
theorem dX9_init_182 : decode cX9_init 182 = .ok (.iconst 4, 1) := by decide +kernel
theorem dX9_init_183 : decode cX9_init 183 = .ok (.iastore, 1) := by decide +kernel
theorem dX9_init_184 : decode cX9_init 184 = .ok (.aload_n 0, 1) := by decide +kernel
theorem dX9_init_185 : decode cX9_init 185 = .ok (.bipush 16, 2) := by decide +kernel
theorem dX9_init_187 : decode cX9_init 187 = .ok (.putfield 45, 3) := by decide +kernel
theorem dX9_init_190 : decode cX9_init 190 = .ok (.aload_n 0, 1) := by decide +kernel
theorem dX9_init_191 : decode cX9_init 191 = .ok (.invokevirtual 49, 3) := by decide +kernel
theorem dX9_init_194 : decode cX9_init 194 = .ok (.return_, 1) := by decide +kernel
theorem dX9_in_0 : decode cX9_in 0 = .ok (.iload_n 0, 1) := by decide +kernel
theorem dX9_in_1 : decode cX9_in 1 = .ok (.iload_n 1, 1) := by decide +kernel
theorem dX9_in_2 : decode cX9_in 2 = .ok (.if_icmp .lt 12, 3) := by decide +kernel
theorem dX9_in_5 : decode cX9_in 5 = .ok (.iload_n 0, 1) := by decide +kernel
theorem dX9_in_6 : decode cX9_in 6 = .ok (.iload_n 2, 1) := by decide +kernel
theorem dX9_in_7 : decode cX9_in 7 = .ok (.if_icmp .gt 7, 3) := by decide +kernel
theorem dX9_in_10 : decode cX9_in 10 = .ok (.iconst 1, 1) := by decide +kernel
theorem dX9_in_11 : decode cX9_in 11 = .ok (.goto 4, 3) := by decide +kernel
theorem dX9_in_14 : decode cX9_in 14 = .ok (.iconst 0, 1) := by decide +kernel
theorem dX9_in_15 : decode cX9_in 15 = .ok (.ireturn, 1) := by decide +kernel
theorem dX9_has_0 : decode cX9_has 0 = .ok (.iload_n 0, 1) := by decide +kernel
theorem dX9_has_1 : decode cX9_has 1 = .ok (.iload_n 1, 1) := by decide +kernel
theorem dX9_has_2 : decode cX9_has 2 = .ok (.ishr, 1) := by decide +kernel
theorem dX9_has_3 : decode cX9_has 3 = .ok (.iconst 1, 1) := by decide +kernel
theorem dX9_has_4 : decode cX9_has 4 = .ok (.iand, 1) := by decide +kernel
theorem dX9_has_5 : decode cX9_has 5 = .ok (.iconst 1, 1) := by decide +kernel
theorem dX9_has_6 : decode cX9_has 6 = .ok (.if_icmp .ne 7, 3) := by decide +kernel
theorem dX9_has_9 : decode cX9_has 9 = .ok (.iconst 1, 1) := by decide +kernel
theorem dX9_has_10 : decode cX9_has 10 = .ok (.goto 4, 3) := by decide +kernel
theorem dX9_has_13 : decode cX9_has 13 = .ok (.iconst 0, 1) := by decide +kernel
theorem dX9_has_14 : decode cX9_has 14 = .ok (.ireturn, 1) := by decide +kernel
theorem dX9_ones_0 : decode cX9_ones 0 = .ok (.iconst 0, 1) := by decide +kernel
theorem dX9_ones_1 : decode cX9_ones 1 = .ok (.istore_n 1, 1) := by decide +kernel
theorem dX9_ones_2 : decode cX9_ones 2 = .ok (.iconst 0, 1) := by decide +kernel
theorem dX9_ones_3 : decode cX9_ones 3 = .ok (.istore_n 2, 1) := by decide +kernel
theorem dX9_ones_4 : decode cX9_ones 4 = .ok (.iload_n 2, 1) := by decide +kernel
theorem dX9_ones_5 : decode cX9_ones 5 = .ok (.bipush 8, 2) := by decide +kernel
theorem dX9_ones_7 : decode cX9_ones 7 = .ok (.if_icmp .ge 17, 3) := by decide +kernel
theorem dX9_ones_10 : decode cX9_ones 10 = .ok (.iload_n 1, 1) := by decide +kernel
theorem dX9_ones_11 : decode cX9_ones 11 = .ok (.iload_n 0, 1) := by decide +kernel
theorem dX9_ones_12 : decode cX9_ones 12 = .ok (.iload_n 2, 1) := by decide +kernel
theorem dX9_ones_13 : decode cX9_ones 13 = .ok (.ishr, 1) := by decide +kernel
theorem dX9_ones_14 : decode cX9_ones 14 = .ok (.iconst 1, 1) := by decide +kernel
theorem dX9_ones_15 : decode cX9_ones 15 = .ok (.iand, 1) := by decide +kernel
theorem dX9_ones_16 : decode cX9_ones 16 = .ok (.iadd, 1) := by decide +kernel
theorem dX9_ones_17 : decode cX9_ones 17 = .ok (.istore_n 1, 1) := by decide +kernel
theorem dX9_ones_18 : decode cX9_ones 18 = .ok (.iinc 2 1, 3) := by decide +kernel
theorem dX9_ones_21 : decode cX9_ones 21 = .ok (.goto (-17), 3) := by decide +kernel
theorem dX9_ones_24 : decode cX9_ones 24 = .ok (.iload_n 1, 1) := by decide +kernel
theorem dX9_ones_25 : decode cX9_ones 25 = .ok (.ireturn, 1) := by decide +kernel
theorem dX9_isBay_0 : decode cX9_isBay 0 = .ok (.iload_n 1, 1) := by decide +kernel
theorem dX9_isBay_1 : decode cX9_isBay 1 = .ok (.iconst 0, 1) := by decide +kernel
theorem dX9_isBay_2 : decode cX9_isBay 2 = .ok (.aload_n 0, 1) := by decide +kernel
theorem dX9_isBay_3 : decode cX9_isBay 3 = .ok (.getfield 13, 3) := by decide +kernel
theorem dX9_isBay_6 : decode cX9_isBay 6 = .ok (.iconst 0, 1) := by decide +kernel
theorem dX9_isBay_7 : decode cX9_isBay 7 = .ok (.iaload, 1) := by decide +kernel
theorem dX9_isBay_8 : decode cX9_isBay 8 = .ok (.iconst 1, 1) := by decide +kernel
theorem dX9_isBay_9 : decode cX9_isBay 9 = .ok (.isub, 1) := by decide +kernel
theorem dX9_isBay_10 : decode cX9_isBay 10 = .ok (.invokestatic 52, 3) := by decide +kernel
theorem dX9_isBay_13 : decode cX9_isBay 13 = .ok (.ireturn, 1) := by decide +kernel
theorem dX9_isButtress_0 : decode cX9_isButtress 0 = .ok (.iload_n 1, 1) := by decide +kernel
theorem dX9_isButtress_1 : decode cX9_isButtress 1 = .ok (.iconst 0, 1) := by decide +kernel
theorem dX9_isButtress_2 : decode cX9_isButtress 2 = .ok (.aload_n 0, 1) := by decide +kernel
theorem dX9_isButtress_3 : decode cX9_isButtress 3 = .ok (.getfield 13, 3) := by decide +kernel
theorem dX9_isButtress_6 : decode cX9_isButtress 6 = .ok (.iconst 1, 1) := by decide +kernel
theorem dX9_isButtress_7 : decode cX9_isButtress 7 = .ok (.iaload, 1) := by decide +kernel
theorem dX9_isButtress_8 : decode cX9_isButtress 8 = .ok (.iconst 1, 1) := by decide +kernel
theorem dX9_isButtress_9 : decode cX9_isButtress 9 = .ok (.isub, 1) := by decide +kernel
theorem dX9_isButtress_10 : decode cX9_isButtress 10 = .ok (.invokestatic 52, 3) := by decide +kernel
theorem dX9_isButtress_13 : decode cX9_isButtress 13 = .ok (.ireturn, 1) := by decide +kernel
theorem dX9_write_0 : decode cX9_write 0 = .ok (.iload_n 1, 1) := by decide +kernel
theorem dX9_write_1 : decode cX9_write 1 = .ok (.bipush 32, 2) := by decide +kernel
theorem dX9_write_3 : decode cX9_write 3 = .ok (.bipush 126, 2) := by decide +kernel
theorem dX9_write_5 : decode cX9_write 5 = .ok (.invokestatic 52, 3) := by decide +kernel
theorem dX9_write_8 : decode cX9_write 8 = .ok (.ifCond .ne 5, 3) := by decide +kernel
theorem dX9_write_11 : decode cX9_write 11 = .ok (.iconst (-1), 1) := by decide +kernel
theorem dX9_write_12 : decode cX9_write 12 = .ok (.ireturn, 1) := by decide +kernel
theorem dX9_write_13 : decode cX9_write 13 = .ok (.aload_n 0, 1) := by decide +kernel
theorem dX9_write_14 : decode cX9_write 14 = .ok (.getfield 56, 3) := by decide +kernel
theorem dX9_write_17 : decode cX9_write 17 = .ok (.sipush 200, 3) := by decide +kernel
theorem dX9_write_20 : decode cX9_write 20 = .ok (.if_icmp .ne 6, 3) := by decide +kernel
theorem dX9_write_23 : decode cX9_write 23 = .ok (.bipush (-3), 2) := by decide +kernel
theorem dX9_write_25 : decode cX9_write 25 = .ok (.ireturn, 1) := by decide +kernel
theorem dX9_write_26 : decode cX9_write 26 = .ok (.aload_n 0, 1) := by decide +kernel
theorem dX9_write_27 : decode cX9_write 27 = .ok (.getfield 7, 3) := by decide +kernel
theorem dX9_write_30 : decode cX9_write 30 = .ok (.aload_n 0, 1) := by decide +kernel
theorem dX9_write_31 : decode cX9_write 31 = .ok (.getfield 56, 3) := by decide +kernel
theorem dX9_write_34 : decode cX9_write 34 = .ok (.iload_n 1, 1) := by decide +kernel
theorem dX9_write_35 : decode cX9_write 35 = .ok (.iastore, 1) := by decide +kernel
theorem dX9_write_36 : decode cX9_write 36 = .ok (.aload_n 0, 1) := by decide +kernel
theorem dX9_write_37 : decode cX9_write 37 = .ok (.dup, 1) := by decide +kernel
theorem dX9_write_38 : decode cX9_write 38 = .ok (.getfield 56, 3) := by decide +kernel
theorem dX9_write_41 : decode cX9_write 41 = .ok (.iconst 1, 1) := by decide +kernel
theorem dX9_write_42 : decode cX9_write 42 = .ok (.iadd, 1) := by decide +kernel
theorem dX9_write_43 : decode cX9_write 43 = .ok (.putfield 56, 3) := by decide +kernel
theorem dX9_write_46 : decode cX9_write 46 = .ok (.aload_n 0, 1) := by decide +kernel
theorem dX9_write_47 : decode cX9_write 47 = .ok (.getfield 56, 3) := by decide +kernel
theorem dX9_write_50 : decode cX9_write 50 = .ok (.ireturn, 1) := by decide +kernel
theorem dX9_wipe_0 : decode cX9_wipe 0 = .ok (.aload_n 0, 1) := by decide +kernel
theorem dX9_wipe_1 : decode cX9_wipe 1 = .ok (.getfield 56, 3) := by decide +kernel
theorem dX9_wipe_4 : decode cX9_wipe 4 = .ok (.istore_n 1, 1) := by decide +kernel
theorem dX9_wipe_5 : decode cX9_wipe 5 = .ok (.aload_n 0, 1) := by decide +kernel
theorem dX9_wipe_6 : decode cX9_wipe 6 = .ok (.iconst 0, 1) := by decide +kernel
theorem dX9_wipe_7 : decode cX9_wipe 7 = .ok (.putfield 56, 3) := by decide +kernel
theorem dX9_wipe_10 : decode cX9_wipe 10 = .ok (.iload_n 1, 1) := by decide +kernel
theorem dX9_wipe_11 : decode cX9_wipe 11 = .ok (.ireturn, 1) := by decide +kernel
theorem dX9_letterAt_0 : decode cX9_letterAt 0 = .ok (.iload_n 1, 1) := by decide +kernel
theorem dX9_letterAt_1 : decode cX9_letterAt 1 = .ok (.aload_n 0, 1) := by decide +kernel
theorem dX9_letterAt_2 : decode cX9_letterAt 2 = .ok (.getfield 56, 3) := by decide +kernel
theorem dX9_letterAt_5 : decode cX9_letterAt 5 = .ok (.if_icmp .ge 12, 3) := by decide +kernel
theorem dX9_letterAt_8 : decode cX9_letterAt 8 = .ok (.aload_n 0, 1) := by decide +kernel
theorem dX9_letterAt_9 : decode cX9_letterAt 9 = .ok (.getfield 7, 3) := by decide +kernel
theorem dX9_letterAt_12 : decode cX9_letterAt 12 = .ok (.iload_n 1, 1) := by decide +kernel
theorem dX9_letterAt_13 : decode cX9_letterAt 13 = .ok (.iaload, 1) := by decide +kernel
theorem dX9_letterAt_14 : decode cX9_letterAt 14 = .ok (.goto 4, 3) := by decide +kernel
theorem dX9_letterAt_17 : decode cX9_letterAt 17 = .ok (.iconst (-1), 1) := by decide +kernel
theorem dX9_letterAt_18 : decode cX9_letterAt 18 = .ok (.ireturn, 1) := by decide +kernel
theorem dX9_isFigure_0 : decode cX9_isFigure 0 = .ok (.iload_n 0, 1) := by decide +kernel
theorem dX9_isFigure_1 : decode cX9_isFigure 1 = .ok (.bipush 48, 2) := by decide +kernel
theorem dX9_isFigure_3 : decode cX9_isFigure 3 = .ok (.bipush 57, 2) := by decide +kernel
theorem dX9_isFigure_5 : decode cX9_isFigure 5 = .ok (.invokestatic 52, 3) := by decide +kernel
theorem dX9_isFigure_8 : decode cX9_isFigure 8 = .ok (.ireturn, 1) := by decide +kernel
theorem dX9_number_0 : decode cX9_number 0 = .ok (.aload_n 0, 1) := by decide +kernel
theorem dX9_number_1 : decode cX9_number 1 = .ok (.aload_n 0, 1) := by decide +kernel
theorem dX9_number_2 : decode cX9_number 2 = .ok (.getfield 59, 3) := by decide +kernel
theorem dX9_number_5 : decode cX9_number 5 = .ok (.invokevirtual 62, 3) := by decide +kernel
theorem dX9_number_8 : decode cX9_number 8 = .ok (.invokestatic 66, 3) := by decide +kernel
theorem dX9_number_11 : decode cX9_number 11 = .ok (.ifCond .ne 5, 3) := by decide +kernel
theorem dX9_number_14 : decode cX9_number 14 = .ok (.iconst (-1), 1) := by decide +kernel
theorem dX9_number_15 : decode cX9_number 15 = .ok (.ireturn, 1) := by decide +kernel
theorem dX9_number_16 : decode cX9_number 16 = .ok (.aload_n 0, 1) := by decide +kernel
theorem dX9_number_17 : decode cX9_number 17 = .ok (.aload_n 0, 1) := by decide +kernel
theorem dX9_number_18 : decode cX9_number 18 = .ok (.getfield 59, 3) := by decide +kernel
theorem dX9_number_21 : decode cX9_number 21 = .ok (.invokevirtual 62, 3) := by decide +kernel
theorem dX9_number_24 : decode cX9_number 24 = .ok (.bipush 48, 2) := by decide +kernel
theorem dX9_number_26 : decode cX9_number 26 = .ok (.isub, 1) := by decide +kernel
theorem dX9_number_27 : decode cX9_number 27 = .ok (.istore 4, 2) := by decide +kernel
theorem dX9_number_29 : decode cX9_number 29 = .ok (.aload_n 0, 1) := by decide +kernel
theorem dX9_number_30 : decode cX9_number 30 = .ok (.dup, 1) := by decide +kernel
theorem dX9_number_31 : decode cX9_number 31 = .ok (.getfield 59, 3) := by decide +kernel
theorem dX9_number_34 : decode cX9_number 34 = .ok (.iconst 1, 1) := by decide +kernel
theorem dX9_number_35 : decode cX9_number 35 = .ok (.iadd, 1) := by decide +kernel
theorem dX9_number_36 : decode cX9_number 36 = .ok (.putfield 59, 3) := by decide +kernel
theorem dX9_number_39 : decode cX9_number 39 = .ok (.aload_n 0, 1) := by decide +kernel
theorem dX9_number_40 : decode cX9_number 40 = .ok (.aload_n 0, 1) := by decide +kernel
theorem dX9_number_41 : decode cX9_number 41 = .ok (.getfield 59, 3) := by decide +kernel
theorem dX9_number_44 : decode cX9_number 44 = .ok (.invokevirtual 62, 3) := by decide +kernel
theorem dX9_number_47 : decode cX9_number 47 = .ok (.invokestatic 66, 3) := by decide +kernel
theorem dX9_number_50 : decode cX9_number 50 = .ok (.ifCond .eq 32, 3) := by decide +kernel
theorem dX9_number_53 : decode cX9_number 53 = .ok (.bipush 10, 2) := by decide +kernel
theorem dX9_number_55 : decode cX9_number 55 = .ok (.iload 4, 2) := by decide +kernel
theorem dX9_number_57 : decode cX9_number 57 = .ok (.imul, 1) := by decide +kernel
theorem dX9_number_58 : decode cX9_number 58 = .ok (.aload_n 0, 1) := by decide +kernel
theorem dX9_number_59 : decode cX9_number 59 = .ok (.aload_n 0, 1) := by decide +kernel
theorem dX9_number_60 : decode cX9_number 60 = .ok (.getfield 59, 3) := by decide +kernel
theorem dX9_number_63 : decode cX9_number 63 = .ok (.invokevirtual 62, 3) := by decide +kernel
theorem dX9_number_66 : decode cX9_number 66 = .ok (.iadd, 1) := by decide +kernel
theorem dX9_number_67 : decode cX9_number 67 = .ok (.bipush 48, 2) := by decide +kernel
theorem dX9_number_69 : decode cX9_number 69 = .ok (.isub, 1) := by decide +kernel
theorem dX9_number_70 : decode cX9_number 70 = .ok (.istore 4, 2) := by decide +kernel
theorem dX9_number_72 : decode cX9_number 72 = .ok (.aload_n 0, 1) := by decide +kernel
theorem dX9_number_73 : decode cX9_number 73 = .ok (.dup, 1) := by decide +kernel
theorem dX9_number_74 : decode cX9_number 74 = .ok (.getfield 59, 3) := by decide +kernel
theorem dX9_number_77 : decode cX9_number 77 = .ok (.iconst 1, 1) := by decide +kernel
theorem dX9_number_78 : decode cX9_number 78 = .ok (.iadd, 1) := by decide +kernel
theorem dX9_number_79 : decode cX9_number 79 = .ok (.putfield 59, 3) := by decide +kernel
theorem dX9_number_82 : decode cX9_number 82 = .ok (.aload_n 0, 1) := by decide +kernel
theorem dX9_number_83 : decode cX9_number 83 = .ok (.aload_n 0, 1) := by decide +kernel
theorem dX9_number_84 : decode cX9_number 84 = .ok (.getfield 59, 3) := by decide +kernel
theorem dX9_number_87 : decode cX9_number 87 = .ok (.invokevirtual 62, 3) := by decide +kernel
theorem dX9_number_90 : decode cX9_number 90 = .ok (.iload_n 3, 1) := by decide +kernel
theorem dX9_number_91 : decode cX9_number 91 = .ok (.if_icmp .ne 17, 3) := by decide +kernel
theorem dX9_number_94 : decode cX9_number 94 = .ok (.iload 4, 2) := by decide +kernel
theorem dX9_number_96 : decode cX9_number 96 = .ok (.iload_n 1, 1) := by decide +kernel
theorem dX9_number_97 : decode cX9_number 97 = .ok (.iload_n 2, 1) := by decide +kernel
theorem dX9_number_98 : decode cX9_number 98 = .ok (.invokestatic 52, 3) := by decide +kernel
theorem dX9_number_101 : decode cX9_number 101 = .ok (.ifCond .eq 7, 3) := by decide +kernel
theorem dX9_number_104 : decode cX9_number 104 = .ok (.iconst 1, 1) := by decide +kernel
theorem dX9_number_105 : decode cX9_number 105 = .ok (.goto 4, 3) := by decide +kernel
theorem dX9_number_108 : decode cX9_number 108 = .ok (.iconst 0, 1) := by decide +kernel
theorem dX9_number_109 : decode cX9_number 109 = .ok (.istore 5, 2) := by decide +kernel
theorem dX9_number_111 : decode cX9_number 111 = .ok (.aload_n 0, 1) := by decide +kernel
theorem dX9_number_112 : decode cX9_number 112 = .ok (.dup, 1) := by decide +kernel
theorem dX9_number_113 : decode cX9_number 113 = .ok (.getfield 59, 3) := by decide +kernel
theorem dX9_number_116 : decode cX9_number 116 = .ok (.iconst 1, 1) := by decide +kernel
theorem dX9_number_117 : decode cX9_number 117 = .ok (.iadd, 1) := by decide +kernel
theorem dX9_number_118 : decode cX9_number 118 = .ok (.putfield 59, 3) := by decide +kernel
theorem dX9_number_121 : decode cX9_number 121 = .ok (.iload 5, 2) := by decide +kernel
theorem dX9_number_123 : decode cX9_number 123 = .ok (.ifCond .eq 8, 3) := by decide +kernel
theorem dX9_number_126 : decode cX9_number 126 = .ok (.iload 4, 2) := by decide +kernel
theorem dX9_number_128 : decode cX9_number 128 = .ok (.goto 4, 3) := by decide +kernel
theorem dX9_number_131 : decode cX9_number 131 = .ok (.iconst (-1), 1) := by decide +kernel
theorem dX9_number_132 : decode cX9_number 132 = .ok (.ireturn, 1) := by decide +kernel
theorem dX9_begins_0 : decode cX9_begins 0 = .ok (.iconst 0, 1) := by decide +kernel
theorem dX9_begins_1 : decode cX9_begins 1 = .ok (.istore_n 1, 1) := by decide +kernel
theorem dX9_begins_2 : decode cX9_begins 2 = .ok (.iload_n 1, 1) := by decide +kernel
theorem dX9_begins_3 : decode cX9_begins 3 = .ok (.bipush 38, 2) := by decide +kernel
theorem dX9_begins_5 : decode cX9_begins 5 = .ok (.if_icmp .ge 16, 3) := by decide +kernel
theorem dX9_begins_8 : decode cX9_begins 8 = .ok (.aload_n 0, 1) := by decide +kernel
theorem dX9_begins_9 : decode cX9_begins 9 = .ok (.getfield 16, 3) := by decide +kernel
theorem dX9_begins_12 : decode cX9_begins 12 = .ok (.iload_n 1, 1) := by decide +kernel
theorem dX9_begins_13 : decode cX9_begins 13 = .ok (.iconst 0, 1) := by decide +kernel
theorem dX9_begins_14 : decode cX9_begins 14 = .ok (.iastore, 1) := by decide +kernel
theorem dX9_begins_15 : decode cX9_begins 15 = .ok (.iinc 1 1, 3) := by decide +kernel
theorem dX9_begins_18 : decode cX9_begins 18 = .ok (.goto (-16), 3) := by decide +kernel
theorem dX9_begins_21 : decode cX9_begins 21 = .ok (.aload_n 0, 1) := by decide +kernel
theorem dX9_begins_22 : decode cX9_begins 22 = .ok (.iconst 0, 1) := by decide +kernel
theorem dX9_begins_23 : decode cX9_begins 23 = .ok (.putfield 45, 3) := by decide +kernel
theorem dX9_begins_26 : decode cX9_begins 26 = .ok (.return_, 1) := by decide +kernel
theorem dX9_bayOf_0 : decode cX9_bayOf 0 = .ok (.aload_n 0, 1) := by decide +kernel
theorem dX9_bayOf_1 : decode cX9_bayOf 1 = .ok (.getfield 16, 3) := by decide +kernel
theorem dX9_bayOf_4 : decode cX9_bayOf 4 = .ok (.iconst 4, 1) := by decide +kernel
theorem dX9_bayOf_5 : decode cX9_bayOf 5 = .ok (.aload_n 0, 1) := by decide +kernel
theorem dX9_bayOf_6 : decode cX9_bayOf 6 = .ok (.getfield 16, 3) := by decide +kernel
theorem dX9_bayOf_9 : decode cX9_bayOf 9 = .ok (.iconst 0, 1) := by decide +kernel
theorem dX9_bayOf_10 : decode cX9_bayOf 10 = .ok (.iaload, 1) := by decide +kernel
theorem dX9_bayOf_11 : decode cX9_bayOf 11 = .ok (.iadd, 1) := by decide +kernel
theorem dX9_bayOf_12 : decode cX9_bayOf 12 = .ok (.iload_n 1, 1) := by decide +kernel
theorem dX9_bayOf_13 : decode cX9_bayOf 13 = .ok (.iastore, 1) := by decide +kernel
theorem dX9_bayOf_14 : decode cX9_bayOf 14 = .ok (.aload_n 0, 1) := by decide +kernel
theorem dX9_bayOf_15 : decode cX9_bayOf 15 = .ok (.getfield 16, 3) := by decide +kernel
theorem dX9_bayOf_18 : decode cX9_bayOf 18 = .ok (.bipush 12, 2) := by decide +kernel
theorem dX9_bayOf_20 : decode cX9_bayOf 20 = .ok (.aload_n 0, 1) := by decide +kernel
theorem dX9_bayOf_21 : decode cX9_bayOf 21 = .ok (.getfield 16, 3) := by decide +kernel
theorem dX9_bayOf_24 : decode cX9_bayOf 24 = .ok (.iconst 0, 1) := by decide +kernel
theorem dX9_bayOf_25 : decode cX9_bayOf 25 = .ok (.iaload, 1) := by decide +kernel
theorem dX9_bayOf_26 : decode cX9_bayOf 26 = .ok (.iadd, 1) := by decide +kernel
theorem dX9_bayOf_27 : decode cX9_bayOf 27 = .ok (.iload_n 2, 1) := by decide +kernel
theorem dX9_bayOf_28 : decode cX9_bayOf 28 = .ok (.iastore, 1) := by decide +kernel
theorem dX9_bayOf_29 : decode cX9_bayOf 29 = .ok (.aload_n 0, 1) := by decide +kernel
theorem dX9_bayOf_30 : decode cX9_bayOf 30 = .ok (.getfield 16, 3) := by decide +kernel
theorem dX9_bayOf_33 : decode cX9_bayOf 33 = .ok (.iconst 0, 1) := by decide +kernel
theorem dX9_bayOf_34 : decode cX9_bayOf 34 = .ok (.dup2, 1) := by decide +kernel
theorem dX9_bayOf_35 : decode cX9_bayOf 35 = .ok (.iaload, 1) := by decide +kernel
theorem dX9_bayOf_36 : decode cX9_bayOf 36 = .ok (.iconst 1, 1) := by decide +kernel
theorem dX9_bayOf_37 : decode cX9_bayOf 37 = .ok (.iadd, 1) := by decide +kernel
theorem dX9_bayOf_38 : decode cX9_bayOf 38 = .ok (.iastore, 1) := by decide +kernel
theorem dX9_bayOf_39 : decode cX9_bayOf 39 = .ok (.return_, 1) := by decide +kernel
theorem dX9_buttressOf_0 : decode cX9_buttressOf 0 = .ok (.aload_n 0, 1) := by decide +kernel
theorem dX9_buttressOf_1 : decode cX9_buttressOf 1 = .ok (.getfield 16, 3) := by decide +kernel
theorem dX9_buttressOf_4 : decode cX9_buttressOf 4 = .ok (.iconst 1, 1) := by decide +kernel
theorem dX9_buttressOf_5 : decode cX9_buttressOf 5 = .ok (.iaload, 1) := by decide +kernel
theorem dX9_buttressOf_6 : decode cX9_buttressOf 6 = .ok (.istore 5, 2) := by decide +kernel
theorem dX9_buttressOf_8 : decode cX9_buttressOf 8 = .ok (.aload_n 0, 1) := by decide +kernel
theorem dX9_buttressOf_9 : decode cX9_buttressOf 9 = .ok (.getfield 16, 3) := by decide +kernel
theorem dX9_buttressOf_12 : decode cX9_buttressOf 12 = .ok (.bipush 20, 2) := by decide +kernel
theorem dX9_buttressOf_14 : decode cX9_buttressOf 14 = .ok (.iload 5, 2) := by decide +kernel
theorem dX9_buttressOf_16 : decode cX9_buttressOf 16 = .ok (.iadd, 1) := by decide +kernel
theorem dX9_buttressOf_17 : decode cX9_buttressOf 17 = .ok (.iload_n 1, 1) := by decide +kernel
theorem dX9_buttressOf_18 : decode cX9_buttressOf 18 = .ok (.iastore, 1) := by decide +kernel
theorem dX9_buttressOf_19 : decode cX9_buttressOf 19 = .ok (.aload_n 0, 1) := by decide +kernel
theorem dX9_buttressOf_20 : decode cX9_buttressOf 20 = .ok (.getfield 16, 3) := by decide +kernel
theorem dX9_buttressOf_23 : decode cX9_buttressOf 23 = .ok (.bipush 26, 2) := by decide +kernel
theorem dX9_buttressOf_25 : decode cX9_buttressOf 25 = .ok (.iload 5, 2) := by decide +kernel
theorem dX9_buttressOf_27 : decode cX9_buttressOf 27 = .ok (.iadd, 1) := by decide +kernel
theorem dX9_buttressOf_28 : decode cX9_buttressOf 28 = .ok (.iload_n 2, 1) := by decide +kernel
theorem dX9_buttressOf_29 : decode cX9_buttressOf 29 = .ok (.iastore, 1) := by decide +kernel
theorem dX9_buttressOf_30 : decode cX9_buttressOf 30 = .ok (.aload_n 0, 1) := by decide +kernel
theorem dX9_buttressOf_31 : decode cX9_buttressOf 31 = .ok (.getfield 16, 3) := by decide +kernel
theorem dX9_buttressOf_34 : decode cX9_buttressOf 34 = .ok (.bipush 32, 2) := by decide +kernel
theorem dX9_buttressOf_36 : decode cX9_buttressOf 36 = .ok (.iload 5, 2) := by decide +kernel
theorem dX9_buttressOf_38 : decode cX9_buttressOf 38 = .ok (.iadd, 1) := by decide +kernel
theorem dX9_buttressOf_39 : decode cX9_buttressOf 39 = .ok (.iload 4, 2) := by decide +kernel
theorem dX9_buttressOf_41 : decode cX9_buttressOf 41 = .ok (.iastore, 1) := by decide +kernel
theorem dX9_buttressOf_42 : decode cX9_buttressOf 42 = .ok (.aload_n 0, 1) := by decide +kernel
theorem dX9_buttressOf_43 : decode cX9_buttressOf 43 = .ok (.getfield 19, 3) := by decide +kernel
theorem dX9_buttressOf_46 : decode cX9_buttressOf 46 = .ok (.iload 5, 2) := by decide +kernel
theorem dX9_buttressOf_48 : decode cX9_buttressOf 48 = .ok (.iload_n 3, 1) := by decide +kernel
theorem dX9_buttressOf_49 : decode cX9_buttressOf 49 = .ok (.iastore, 1) := by decide +kernel
theorem dX9_buttressOf_50 : decode cX9_buttressOf 50 = .ok (.aload_n 0, 1) := by decide +kernel
theorem dX9_buttressOf_51 : decode cX9_buttressOf 51 = .ok (.getfield 16, 3) := by decide +kernel
theorem dX9_buttressOf_54 : decode cX9_buttressOf 54 = .ok (.iconst 1, 1) := by decide +kernel
theorem dX9_buttressOf_55 : decode cX9_buttressOf 55 = .ok (.dup2, 1) := by decide +kernel
theorem dX9_buttressOf_56 : decode cX9_buttressOf 56 = .ok (.iaload, 1) := by decide +kernel
theorem dX9_buttressOf_57 : decode cX9_buttressOf 57 = .ok (.iconst 1, 1) := by decide +kernel
theorem dX9_buttressOf_58 : decode cX9_buttressOf 58 = .ok (.iadd, 1) := by decide +kernel
theorem dX9_buttressOf_59 : decode cX9_buttressOf 59 = .ok (.iastore, 1) := by decide +kernel
theorem dX9_buttressOf_60 : decode cX9_buttressOf 60 = .ok (.return_, 1) := by decide +kernel
theorem dX9_readsBay_0 : decode cX9_readsBay 0 = .ok (.aload_n 0, 1) := by decide +kernel
theorem dX9_readsBay_1 : decode cX9_readsBay 1 = .ok (.iconst 0, 1) := by decide +kernel
theorem dX9_readsBay_2 : decode cX9_readsBay 2 = .ok (.bipush 99, 2) := by decide +kernel
theorem dX9_readsBay_4 : decode cX9_readsBay 4 = .ok (.bipush 44, 2) := by decide +kernel
theorem dX9_readsBay_6 : decode cX9_readsBay 6 = .ok (.invokevirtual 70, 3) := by decide +kernel
theorem dX9_readsBay_9 : decode cX9_readsBay 9 = .ok (.istore_n 1, 1) := by decide +kernel
theorem dX9_readsBay_10 : decode cX9_readsBay 10 = .ok (.iload_n 1, 1) := by decide +kernel
theorem dX9_readsBay_11 : decode cX9_readsBay 11 = .ok (.ifCond .ge 7, 3) := by decide +kernel
theorem dX9_readsBay_14 : decode cX9_readsBay 14 = .ok (.iconst (-1), 1) := by decide +kernel
theorem dX9_readsBay_15 : decode cX9_readsBay 15 = .ok (.goto 12, 3) := by decide +kernel
theorem dX9_readsBay_18 : decode cX9_readsBay 18 = .ok (.aload_n 0, 1) := by decide +kernel
theorem dX9_readsBay_19 : decode cX9_readsBay 19 = .ok (.iconst 0, 1) := by decide +kernel
theorem dX9_readsBay_20 : decode cX9_readsBay 20 = .ok (.bipush 20, 2) := by decide +kernel
theorem dX9_readsBay_22 : decode cX9_readsBay 22 = .ok (.bipush 59, 2) := by decide +kernel
theorem dX9_readsBay_24 : decode cX9_readsBay 24 = .ok (.invokevirtual 70, 3) := by decide +kernel
theorem dX9_readsBay_27 : decode cX9_readsBay 27 = .ok (.istore_n 2, 1) := by decide +kernel
theorem dX9_readsBay_28 : decode cX9_readsBay 28 = .ok (.iload_n 2, 1) := by decide +kernel
theorem dX9_readsBay_29 : decode cX9_readsBay 29 = .ok (.ifCond .lt 14, 3) := by decide +kernel
theorem dX9_readsBay_32 : decode cX9_readsBay 32 = .ok (.aload_n 0, 1) := by decide +kernel
theorem dX9_readsBay_33 : decode cX9_readsBay 33 = .ok (.getfield 16, 3) := by decide +kernel
theorem dX9_readsBay_36 : decode cX9_readsBay 36 = .ok (.iconst 0, 1) := by decide +kernel
theorem dX9_readsBay_37 : decode cX9_readsBay 37 = .ok (.iaload, 1) := by decide +kernel
theorem dX9_readsBay_38 : decode cX9_readsBay 38 = .ok (.bipush 8, 2) := by decide +kernel
theorem dX9_readsBay_40 : decode cX9_readsBay 40 = .ok (.if_icmp .ne 5, 3) := by decide +kernel
theorem dX9_readsBay_43 : decode cX9_readsBay 43 = .ok (.iconst 0, 1) := by decide +kernel
theorem dX9_readsBay_44 : decode cX9_readsBay 44 = .ok (.ireturn, 1) := by decide +kernel
theorem dX9_readsBay_45 : decode cX9_readsBay 45 = .ok (.aload_n 0, 1) := by decide +kernel
theorem dX9_readsBay_46 : decode cX9_readsBay 46 = .ok (.iload_n 1, 1) := by decide +kernel
theorem dX9_readsBay_47 : decode cX9_readsBay 47 = .ok (.iload_n 2, 1) := by decide +kernel
theorem dX9_readsBay_48 : decode cX9_readsBay 48 = .ok (.invokevirtual 37, 3) := by decide +kernel
theorem dX9_readsBay_51 : decode cX9_readsBay 51 = .ok (.iconst 1, 1) := by decide +kernel
theorem dX9_readsBay_52 : decode cX9_readsBay 52 = .ok (.ireturn, 1) := by decide +kernel
theorem dX9_readsButtress_0 : decode cX9_readsButtress 0 = .ok (.aload_n 0, 1) := by decide +kernel
theorem dX9_readsButtress_1 : decode cX9_readsButtress 1 = .ok (.iconst 0, 1) := by decide +kernel
theorem dX9_readsButtress_2 : decode cX9_readsButtress 2 = .ok (.iconst 3, 1) := by decide +kernel
theorem dX9_readsButtress_3 : decode cX9_readsButtress 3 = .ok (.bipush 44, 2) := by decide +kernel
theorem dX9_readsButtress_5 : decode cX9_readsButtress 5 = .ok (.invokevirtual 70, 3) := by decide +kernel
theorem dX9_readsButtress_8 : decode cX9_readsButtress 8 = .ok (.istore_n 1, 1) := by decide +kernel
theorem dX9_readsButtress_9 : decode cX9_readsButtress 9 = .ok (.iload_n 1, 1) := by decide +kernel
theorem dX9_readsButtress_10 : decode cX9_readsButtress 10 = .ok (.ifCond .ge 7, 3) := by decide +kernel
theorem dX9_readsButtress_13 : decode cX9_readsButtress 13 = .ok (.iconst (-1), 1) := by decide +kernel
theorem dX9_readsButtress_14 : decode cX9_readsButtress 14 = .ok (.goto 12, 3) := by decide +kernel
theorem dX9_readsButtress_17 : decode cX9_readsButtress 17 = .ok (.aload_n 0, 1) := by decide +kernel
theorem dX9_readsButtress_18 : decode cX9_readsButtress 18 = .ok (.iconst 1, 1) := by decide +kernel
theorem dX9_readsButtress_19 : decode cX9_readsButtress 19 = .ok (.bipush 99, 2) := by decide +kernel
theorem dX9_readsButtress_21 : decode cX9_readsButtress 21 = .ok (.bipush 44, 2) := by decide +kernel
theorem dX9_readsButtress_23 : decode cX9_readsButtress 23 = .ok (.invokevirtual 70, 3) := by decide +kernel
theorem dX9_readsButtress_26 : decode cX9_readsButtress 26 = .ok (.istore_n 2, 1) := by decide +kernel
theorem dX9_readsButtress_27 : decode cX9_readsButtress 27 = .ok (.iload_n 2, 1) := by decide +kernel
theorem dX9_readsButtress_28 : decode cX9_readsButtress 28 = .ok (.ifCond .ge 7, 3) := by decide +kernel
theorem dX9_readsButtress_31 : decode cX9_readsButtress 31 = .ok (.iconst (-1), 1) := by decide +kernel
theorem dX9_readsButtress_32 : decode cX9_readsButtress 32 = .ok (.goto 18, 3) := by decide +kernel
theorem dX9_readsButtress_35 : decode cX9_readsButtress 35 = .ok (.aload_n 0, 1) := by decide +kernel
theorem dX9_readsButtress_36 : decode cX9_readsButtress 36 = .ok (.iconst 0, 1) := by decide +kernel
theorem dX9_readsButtress_37 : decode cX9_readsButtress 37 = .ok (.aload_n 0, 1) := by decide +kernel
theorem dX9_readsButtress_38 : decode cX9_readsButtress 38 = .ok (.getfield 16, 3) := by decide +kernel
theorem dX9_readsButtress_41 : decode cX9_readsButtress 41 = .ok (.iconst 0, 1) := by decide +kernel
theorem dX9_readsButtress_42 : decode cX9_readsButtress 42 = .ok (.iaload, 1) := by decide +kernel
theorem dX9_readsButtress_43 : decode cX9_readsButtress 43 = .ok (.iconst 1, 1) := by decide +kernel
theorem dX9_readsButtress_44 : decode cX9_readsButtress 44 = .ok (.isub, 1) := by decide +kernel
theorem dX9_readsButtress_45 : decode cX9_readsButtress 45 = .ok (.bipush 44, 2) := by decide +kernel
theorem dX9_readsButtress_47 : decode cX9_readsButtress 47 = .ok (.invokevirtual 70, 3) := by decide +kernel
theorem dX9_readsButtress_50 : decode cX9_readsButtress 50 = .ok (.istore_n 3, 1) := by decide +kernel
theorem dX9_readsButtress_51 : decode cX9_readsButtress 51 = .ok (.iload_n 3, 1) := by decide +kernel
theorem dX9_readsButtress_52 : decode cX9_readsButtress 52 = .ok (.ifCond .ge 7, 3) := by decide +kernel
theorem dX9_readsButtress_55 : decode cX9_readsButtress 55 = .ok (.iconst (-1), 1) := by decide +kernel
theorem dX9_readsButtress_56 : decode cX9_readsButtress 56 = .ok (.goto 12, 3) := by decide +kernel
theorem dX9_readsButtress_59 : decode cX9_readsButtress 59 = .ok (.aload_n 0, 1) := by decide +kernel
theorem dX9_readsButtress_60 : decode cX9_readsButtress 60 = .ok (.iconst 1, 1) := by decide +kernel
theorem dX9_readsButtress_61 : decode cX9_readsButtress 61 = .ok (.bipush 30, 2) := by decide +kernel
theorem dX9_readsButtress_63 : decode cX9_readsButtress 63 = .ok (.bipush 59, 2) := by decide +kernel
theorem dX9_readsButtress_65 : decode cX9_readsButtress 65 = .ok (.invokevirtual 70, 3) := by decide +kernel
theorem dX9_readsButtress_68 : decode cX9_readsButtress 68 = .ok (.istore 4, 2) := by decide +kernel
theorem dX9_readsButtress_70 : decode cX9_readsButtress 70 = .ok (.iload 4, 2) := by decide +kernel
theorem dX9_readsButtress_72 : decode cX9_readsButtress 72 = .ok (.ifCond .lt 14, 3) := by decide +kernel
theorem dX9_readsButtress_75 : decode cX9_readsButtress 75 = .ok (.aload_n 0, 1) := by decide +kernel
theorem dX9_readsButtress_76 : decode cX9_readsButtress 76 = .ok (.getfield 16, 3) := by decide +kernel
theorem dX9_readsButtress_79 : decode cX9_readsButtress 79 = .ok (.iconst 1, 1) := by decide +kernel
theorem dX9_readsButtress_80 : decode cX9_readsButtress 80 = .ok (.iaload, 1) := by decide +kernel
theorem dX9_readsButtress_81 : decode cX9_readsButtress 81 = .ok (.bipush 6, 2) := by decide +kernel
theorem dX9_readsButtress_83 : decode cX9_readsButtress 83 = .ok (.if_icmp .ne 5, 3) := by decide +kernel
theorem dX9_readsButtress_86 : decode cX9_readsButtress 86 = .ok (.iconst 0, 1) := by decide +kernel
theorem dX9_readsButtress_87 : decode cX9_readsButtress 87 = .ok (.ireturn, 1) := by decide +kernel
theorem dX9_readsButtress_88 : decode cX9_readsButtress 88 = .ok (.aload_n 0, 1) := by decide +kernel
theorem dX9_readsButtress_89 : decode cX9_readsButtress 89 = .ok (.iload_n 1, 1) := by decide +kernel
theorem dX9_readsButtress_90 : decode cX9_readsButtress 90 = .ok (.iload_n 2, 1) := by decide +kernel
theorem dX9_readsButtress_91 : decode cX9_readsButtress 91 = .ok (.iload_n 3, 1) := by decide +kernel
theorem dX9_readsButtress_92 : decode cX9_readsButtress 92 = .ok (.iload 4, 2) := by decide +kernel
theorem dX9_readsButtress_94 : decode cX9_readsButtress 94 = .ok (.invokevirtual 41, 3) := by decide +kernel
theorem dX9_readsButtress_97 : decode cX9_readsButtress 97 = .ok (.iconst 1, 1) := by decide +kernel
theorem dX9_readsButtress_98 : decode cX9_readsButtress 98 = .ok (.ireturn, 1) := by decide +kernel
theorem dX9_readsItem_0 : decode cX9_readsItem 0 = .ok (.iload_n 1, 1) := by decide +kernel
theorem dX9_readsItem_1 : decode cX9_readsItem 1 = .ok (.tableswitch 146 98 102 #[35, 45, 100, 146, 40], 35) := by decide +kernel
theorem dX9_readsItem_36 : decode cX9_readsItem 36 = .ok (.aload_n 0, 1) := by decide +kernel
theorem dX9_readsItem_37 : decode cX9_readsItem 37 = .ok (.invokevirtual 74, 3) := by decide +kernel
theorem dX9_readsItem_40 : decode cX9_readsItem 40 = .ok (.ireturn, 1) := by decide +kernel
theorem dX9_readsItem_41 : decode cX9_readsItem 41 = .ok (.aload_n 0, 1) := by decide +kernel
theorem dX9_readsItem_42 : decode cX9_readsItem 42 = .ok (.invokevirtual 78, 3) := by decide +kernel
theorem dX9_readsItem_45 : decode cX9_readsItem 45 = .ok (.ireturn, 1) := by decide +kernel
theorem dX9_readsItem_46 : decode cX9_readsItem 46 = .ok (.aload_n 0, 1) := by decide +kernel
theorem dX9_readsItem_47 : decode cX9_readsItem 47 = .ok (.iconst 0, 1) := by decide +kernel
theorem dX9_readsItem_48 : decode cX9_readsItem 48 = .ok (.iconst 1, 1) := by decide +kernel
theorem dX9_readsItem_49 : decode cX9_readsItem 49 = .ok (.bipush 59, 2) := by decide +kernel
theorem dX9_readsItem_51 : decode cX9_readsItem 51 = .ok (.invokevirtual 70, 3) := by decide +kernel
theorem dX9_readsItem_54 : decode cX9_readsItem 54 = .ok (.istore_n 2, 1) := by decide +kernel
theorem dX9_readsItem_55 : decode cX9_readsItem 55 = .ok (.iload_n 2, 1) := by decide +kernel
theorem dX9_readsItem_56 : decode cX9_readsItem 56 = .ok (.ifCond .lt 14, 3) := by decide +kernel
theorem dX9_readsItem_59 : decode cX9_readsItem 59 = .ok (.aload_n 0, 1) := by decide +kernel
theorem dX9_readsItem_60 : decode cX9_readsItem 60 = .ok (.getfield 16, 3) := by decide +kernel
theorem dX9_readsItem_63 : decode cX9_readsItem 63 = .ok (.iconst 2, 1) := by decide +kernel
theorem dX9_readsItem_64 : decode cX9_readsItem 64 = .ok (.iaload, 1) := by decide +kernel
theorem dX9_readsItem_65 : decode cX9_readsItem 65 = .ok (.bipush 12, 2) := by decide +kernel
theorem dX9_readsItem_67 : decode cX9_readsItem 67 = .ok (.if_icmp .ne 5, 3) := by decide +kernel
theorem dX9_readsItem_70 : decode cX9_readsItem 70 = .ok (.iconst 0, 1) := by decide +kernel
theorem dX9_readsItem_71 : decode cX9_readsItem 71 = .ok (.ireturn, 1) := by decide +kernel
theorem dX9_readsItem_72 : decode cX9_readsItem 72 = .ok (.aload_n 0, 1) := by decide +kernel
theorem dX9_readsItem_73 : decode cX9_readsItem 73 = .ok (.getfield 16, 3) := by decide +kernel
theorem dX9_readsItem_76 : decode cX9_readsItem 76 = .ok (.iconst 3, 1) := by decide +kernel
theorem dX9_readsItem_77 : decode cX9_readsItem 77 = .ok (.dup2, 1) := by decide +kernel
theorem dX9_readsItem_78 : decode cX9_readsItem 78 = .ok (.iaload, 1) := by decide +kernel
theorem dX9_readsItem_79 : decode cX9_readsItem 79 = .ok (.iload_n 2, 1) := by decide +kernel
theorem dX9_readsItem_80 : decode cX9_readsItem 80 = .ok (.aload_n 0, 1) := by decide +kernel
theorem dX9_readsItem_81 : decode cX9_readsItem 81 = .ok (.getfield 16, 3) := by decide +kernel
theorem dX9_readsItem_84 : decode cX9_readsItem 84 = .ok (.iconst 2, 1) := by decide +kernel
theorem dX9_readsItem_85 : decode cX9_readsItem 85 = .ok (.iaload, 1) := by decide +kernel
theorem dX9_readsItem_86 : decode cX9_readsItem 86 = .ok (.ishl, 1) := by decide +kernel
theorem dX9_readsItem_87 : decode cX9_readsItem 87 = .ok (.ior, 1) := by decide +kernel
theorem dX9_readsItem_88 : decode cX9_readsItem 88 = .ok (.iastore, 1) := by decide +kernel
theorem dX9_readsItem_89 : decode cX9_readsItem 89 = .ok (.aload_n 0, 1) := by decide +kernel
theorem dX9_readsItem_90 : decode cX9_readsItem 90 = .ok (.getfield 16, 3) := by decide +kernel
theorem dX9_readsItem_93 : decode cX9_readsItem 93 = .ok (.iconst 2, 1) := by decide +kernel
theorem dX9_readsItem_94 : decode cX9_readsItem 94 = .ok (.dup2, 1) := by decide +kernel
theorem dX9_readsItem_95 : decode cX9_readsItem 95 = .ok (.iaload, 1) := by decide +kernel
theorem dX9_readsItem_96 : decode cX9_readsItem 96 = .ok (.iconst 1, 1) := by decide +kernel
theorem dX9_readsItem_97 : decode cX9_readsItem 97 = .ok (.iadd, 1) := by decide +kernel
theorem dX9_readsItem_98 : decode cX9_readsItem 98 = .ok (.iastore, 1) := by decide +kernel
theorem dX9_readsItem_99 : decode cX9_readsItem 99 = .ok (.iconst 1, 1) := by decide +kernel
theorem dX9_readsItem_100 : decode cX9_readsItem 100 = .ok (.ireturn, 1) := by decide +kernel
theorem dX9_readsItem_101 : decode cX9_readsItem 101 = .ok (.aload_n 0, 1) := by decide +kernel
theorem dX9_readsItem_102 : decode cX9_readsItem 102 = .ok (.iconst 0, 1) := by decide +kernel
theorem dX9_readsItem_103 : decode cX9_readsItem 103 = .ok (.aload_n 0, 1) := by decide +kernel
theorem dX9_readsItem_104 : decode cX9_readsItem 104 = .ok (.getfield 16, 3) := by decide +kernel
theorem dX9_readsItem_107 : decode cX9_readsItem 107 = .ok (.iconst 1, 1) := by decide +kernel
theorem dX9_readsItem_108 : decode cX9_readsItem 108 = .ok (.iaload, 1) := by decide +kernel
theorem dX9_readsItem_109 : decode cX9_readsItem 109 = .ok (.iconst 1, 1) := by decide +kernel
theorem dX9_readsItem_110 : decode cX9_readsItem 110 = .ok (.isub, 1) := by decide +kernel
theorem dX9_readsItem_111 : decode cX9_readsItem 111 = .ok (.bipush 59, 2) := by decide +kernel
theorem dX9_readsItem_113 : decode cX9_readsItem 113 = .ok (.invokevirtual 70, 3) := by decide +kernel
theorem dX9_readsItem_116 : decode cX9_readsItem 116 = .ok (.istore_n 2, 1) := by decide +kernel
theorem dX9_readsItem_117 : decode cX9_readsItem 117 = .ok (.aload_n 0, 1) := by decide +kernel
theorem dX9_readsItem_118 : decode cX9_readsItem 118 = .ok (.dup, 1) := by decide +kernel
theorem dX9_readsItem_119 : decode cX9_readsItem 119 = .ok (.getfield 45, 3) := by decide +kernel
theorem dX9_readsItem_122 : decode cX9_readsItem 122 = .ok (.iload_n 2, 1) := by decide +kernel
theorem dX9_readsItem_123 : decode cX9_readsItem 123 = .ok (.ifCond .ge 7, 3) := by decide +kernel
theorem dX9_readsItem_126 : decode cX9_readsItem 126 = .ok (.iconst 0, 1) := by decide +kernel
theorem dX9_readsItem_127 : decode cX9_readsItem 127 = .ok (.goto 6, 3) := by decide +kernel
theorem dX9_readsItem_130 : decode cX9_readsItem 130 = .ok (.iconst 1, 1) := by decide +kernel
theorem dX9_readsItem_131 : decode cX9_readsItem 131 = .ok (.iload_n 2, 1) := by decide +kernel
theorem dX9_readsItem_132 : decode cX9_readsItem 132 = .ok (.ishl, 1) := by decide +kernel
theorem dX9_readsItem_133 : decode cX9_readsItem 133 = .ok (.ior, 1) := by decide +kernel
theorem dX9_readsItem_134 : decode cX9_readsItem 134 = .ok (.putfield 45, 3) := by decide +kernel
theorem dX9_readsItem_137 : decode cX9_readsItem 137 = .ok (.iload_n 2, 1) := by decide +kernel
theorem dX9_readsItem_138 : decode cX9_readsItem 138 = .ok (.ifCond .lt 7, 3) := by decide +kernel
theorem dX9_readsItem_141 : decode cX9_readsItem 141 = .ok (.iconst 1, 1) := by decide +kernel
theorem dX9_readsItem_142 : decode cX9_readsItem 142 = .ok (.goto 4, 3) := by decide +kernel
theorem dX9_readsItem_145 : decode cX9_readsItem 145 = .ok (.iconst 0, 1) := by decide +kernel
theorem dX9_readsItem_146 : decode cX9_readsItem 146 = .ok (.ireturn, 1) := by decide +kernel
theorem dX9_readsItem_147 : decode cX9_readsItem 147 = .ok (.iconst 0, 1) := by decide +kernel
theorem dX9_readsItem_148 : decode cX9_readsItem 148 = .ok (.ireturn, 1) := by decide +kernel
theorem dX9_readsAll_0 : decode cX9_readsAll 0 = .ok (.aload_n 0, 1) := by decide +kernel
theorem dX9_readsAll_1 : decode cX9_readsAll 1 = .ok (.invokevirtual 34, 3) := by decide +kernel
theorem dX9_readsAll_4 : decode cX9_readsAll 4 = .ok (.aload_n 0, 1) := by decide +kernel
theorem dX9_readsAll_5 : decode cX9_readsAll 5 = .ok (.iconst 0, 1) := by decide +kernel
theorem dX9_readsAll_6 : decode cX9_readsAll 6 = .ok (.putfield 59, 3) := by decide +kernel
theorem dX9_readsAll_9 : decode cX9_readsAll 9 = .ok (.aload_n 0, 1) := by decide +kernel
theorem dX9_readsAll_10 : decode cX9_readsAll 10 = .ok (.getfield 59, 3) := by decide +kernel
theorem dX9_readsAll_13 : decode cX9_readsAll 13 = .ok (.aload_n 0, 1) := by decide +kernel
theorem dX9_readsAll_14 : decode cX9_readsAll 14 = .ok (.getfield 56, 3) := by decide +kernel
theorem dX9_readsAll_17 : decode cX9_readsAll 17 = .ok (.if_icmp .ge 36, 3) := by decide +kernel
theorem dX9_readsAll_20 : decode cX9_readsAll 20 = .ok (.aload_n 0, 1) := by decide +kernel
theorem dX9_readsAll_21 : decode cX9_readsAll 21 = .ok (.getfield 59, 3) := by decide +kernel
theorem dX9_readsAll_24 : decode cX9_readsAll 24 = .ok (.istore_n 1, 1) := by decide +kernel
theorem dX9_readsAll_25 : decode cX9_readsAll 25 = .ok (.aload_n 0, 1) := by decide +kernel
theorem dX9_readsAll_26 : decode cX9_readsAll 26 = .ok (.dup, 1) := by decide +kernel
theorem dX9_readsAll_27 : decode cX9_readsAll 27 = .ok (.getfield 59, 3) := by decide +kernel
theorem dX9_readsAll_30 : decode cX9_readsAll 30 = .ok (.iconst 1, 1) := by decide +kernel
theorem dX9_readsAll_31 : decode cX9_readsAll 31 = .ok (.iadd, 1) := by decide +kernel
theorem dX9_readsAll_32 : decode cX9_readsAll 32 = .ok (.putfield 59, 3) := by decide +kernel
theorem dX9_readsAll_35 : decode cX9_readsAll 35 = .ok (.aload_n 0, 1) := by decide +kernel
theorem dX9_readsAll_36 : decode cX9_readsAll 36 = .ok (.aload_n 0, 1) := by decide +kernel
theorem dX9_readsAll_37 : decode cX9_readsAll 37 = .ok (.getfield 7, 3) := by decide +kernel
theorem dX9_readsAll_40 : decode cX9_readsAll 40 = .ok (.iload_n 1, 1) := by decide +kernel
theorem dX9_readsAll_41 : decode cX9_readsAll 41 = .ok (.iaload, 1) := by decide +kernel
theorem dX9_readsAll_42 : decode cX9_readsAll 42 = .ok (.invokevirtual 81, 3) := by decide +kernel
theorem dX9_readsAll_45 : decode cX9_readsAll 45 = .ok (.ifCond .ne 5, 3) := by decide +kernel
theorem dX9_readsAll_48 : decode cX9_readsAll 48 = .ok (.iload_n 1, 1) := by decide +kernel
theorem dX9_readsAll_49 : decode cX9_readsAll 49 = .ok (.ireturn, 1) := by decide +kernel
theorem dX9_readsAll_50 : decode cX9_readsAll 50 = .ok (.goto (-41), 3) := by decide +kernel
theorem dX9_readsAll_53 : decode cX9_readsAll 53 = .ok (.bipush (-4), 2) := by decide +kernel
theorem dX9_readsAll_55 : decode cX9_readsAll 55 = .ok (.ireturn, 1) := by decide +kernel
theorem dX9_fault_0 : decode cX9_fault 0 = .ok (.aload_n 0, 1) := by decide +kernel
theorem dX9_fault_1 : decode cX9_fault 1 = .ok (.invokevirtual 84, 3) := by decide +kernel
theorem dX9_fault_4 : decode cX9_fault 4 = .ok (.ireturn, 1) := by decide +kernel
theorem dX9_lays_0 : decode cX9_lays 0 = .ok (.iconst 0, 1) := by decide +kernel
theorem dX9_lays_1 : decode cX9_lays 1 = .ok (.istore_n 1, 1) := by decide +kernel
theorem dX9_lays_2 : decode cX9_lays 2 = .ok (.iload_n 1, 1) := by decide +kernel
theorem dX9_lays_3 : decode cX9_lays 3 = .ok (.bipush 38, 2) := by decide +kernel
theorem dX9_lays_5 : decode cX9_lays 5 = .ok (.if_icmp .ge 21, 3) := by decide +kernel
theorem dX9_lays_8 : decode cX9_lays 8 = .ok (.aload_n 0, 1) := by decide +kernel
theorem dX9_lays_9 : decode cX9_lays 9 = .ok (.getfield 13, 3) := by decide +kernel
theorem dX9_lays_12 : decode cX9_lays 12 = .ok (.iload_n 1, 1) := by decide +kernel
theorem dX9_lays_13 : decode cX9_lays 13 = .ok (.aload_n 0, 1) := by decide +kernel
theorem dX9_lays_14 : decode cX9_lays 14 = .ok (.getfield 16, 3) := by decide +kernel
theorem dX9_lays_17 : decode cX9_lays 17 = .ok (.iload_n 1, 1) := by decide +kernel
theorem dX9_lays_18 : decode cX9_lays 18 = .ok (.iaload, 1) := by decide +kernel
theorem dX9_lays_19 : decode cX9_lays 19 = .ok (.iastore, 1) := by decide +kernel
theorem dX9_lays_20 : decode cX9_lays 20 = .ok (.iinc 1 1, 3) := by decide +kernel
theorem dX9_lays_23 : decode cX9_lays 23 = .ok (.goto (-21), 3) := by decide +kernel
theorem dX9_lays_26 : decode cX9_lays 26 = .ok (.iconst 0, 1) := by decide +kernel
theorem dX9_lays_27 : decode cX9_lays 27 = .ok (.istore_n 1, 1) := by decide +kernel
theorem dX9_lays_28 : decode cX9_lays 28 = .ok (.iload_n 1, 1) := by decide +kernel
theorem dX9_lays_29 : decode cX9_lays 29 = .ok (.bipush 23, 2) := by decide +kernel
theorem dX9_lays_31 : decode cX9_lays 31 = .ok (.if_icmp .ge 52, 3) := by decide +kernel
theorem dX9_lays_34 : decode cX9_lays 34 = .ok (.aload_n 0, 1) := by decide +kernel
theorem dX9_lays_35 : decode cX9_lays 35 = .ok (.getfield 22, 3) := by decide +kernel
theorem dX9_lays_38 : decode cX9_lays 38 = .ok (.iload_n 1, 1) := by decide +kernel
theorem dX9_lays_39 : decode cX9_lays 39 = .ok (.iload_n 1, 1) := by decide +kernel
theorem dX9_lays_40 : decode cX9_lays 40 = .ok (.bipush 9, 2) := by decide +kernel
theorem dX9_lays_42 : decode cX9_lays 42 = .ok (.bipush 14, 2) := by decide +kernel
theorem dX9_lays_44 : decode cX9_lays 44 = .ok (.invokestatic 52, 3) := by decide +kernel
theorem dX9_lays_47 : decode cX9_lays 47 = .ok (.ifCond .eq 28, 3) := by decide +kernel
theorem dX9_lays_50 : decode cX9_lays 50 = .ok (.iload_n 1, 1) := by decide +kernel
theorem dX9_lays_51 : decode cX9_lays 51 = .ok (.bipush 9, 2) := by decide +kernel
theorem dX9_lays_53 : decode cX9_lays 53 = .ok (.isub, 1) := by decide +kernel
theorem dX9_lays_54 : decode cX9_lays 54 = .ok (.aload_n 0, 1) := by decide +kernel
theorem dX9_lays_55 : decode cX9_lays 55 = .ok (.getfield 13, 3) := by decide +kernel
theorem dX9_lays_58 : decode cX9_lays 58 = .ok (.iconst 1, 1) := by decide +kernel
theorem dX9_lays_59 : decode cX9_lays 59 = .ok (.iaload, 1) := by decide +kernel
theorem dX9_lays_60 : decode cX9_lays 60 = .ok (.if_icmp .ge 15, 3) := by decide +kernel
theorem dX9_lays_63 : decode cX9_lays 63 = .ok (.aload_n 0, 1) := by decide +kernel
theorem dX9_lays_64 : decode cX9_lays 64 = .ok (.getfield 19, 3) := by decide +kernel
theorem dX9_lays_67 : decode cX9_lays 67 = .ok (.iload_n 1, 1) := by decide +kernel
theorem dX9_lays_68 : decode cX9_lays 68 = .ok (.bipush 9, 2) := by decide +kernel
theorem dX9_lays_70 : decode cX9_lays 70 = .ok (.isub, 1) := by decide +kernel
theorem dX9_lays_71 : decode cX9_lays 71 = .ok (.iaload, 1) := by decide +kernel
theorem dX9_lays_72 : decode cX9_lays 72 = .ok (.goto 4, 3) := by decide +kernel
theorem dX9_lays_75 : decode cX9_lays 75 = .ok (.iconst 0, 1) := by decide +kernel
theorem dX9_lays_76 : decode cX9_lays 76 = .ok (.iastore, 1) := by decide +kernel
theorem dX9_lays_77 : decode cX9_lays 77 = .ok (.iinc 1 1, 3) := by decide +kernel
theorem dX9_lays_80 : decode cX9_lays 80 = .ok (.goto (-52), 3) := by decide +kernel
theorem dX9_lays_83 : decode cX9_lays 83 = .ok (.aload_n 0, 1) := by decide +kernel
theorem dX9_lays_84 : decode cX9_lays 84 = .ok (.getfield 22, 3) := by decide +kernel
theorem dX9_lays_87 : decode cX9_lays 87 = .ok (.iconst 1, 1) := by decide +kernel
theorem dX9_lays_88 : decode cX9_lays 88 = .ok (.iconst 1, 1) := by decide +kernel
theorem dX9_lays_89 : decode cX9_lays 89 = .ok (.aload_n 0, 1) := by decide +kernel
theorem dX9_lays_90 : decode cX9_lays 90 = .ok (.getfield 13, 3) := by decide +kernel
theorem dX9_lays_93 : decode cX9_lays 93 = .ok (.iconst 1, 1) := by decide +kernel
theorem dX9_lays_94 : decode cX9_lays 94 = .ok (.iaload, 1) := by decide +kernel
theorem dX9_lays_95 : decode cX9_lays 95 = .ok (.ishl, 1) := by decide +kernel
theorem dX9_lays_96 : decode cX9_lays 96 = .ok (.iconst 1, 1) := by decide +kernel
theorem dX9_lays_97 : decode cX9_lays 97 = .ok (.isub, 1) := by decide +kernel
theorem dX9_lays_98 : decode cX9_lays 98 = .ok (.aload_n 0, 1) := by decide +kernel
theorem dX9_lays_99 : decode cX9_lays 99 = .ok (.getfield 45, 3) := by decide +kernel
theorem dX9_lays_102 : decode cX9_lays 102 = .ok (.iconst (-1), 1) := by decide +kernel
theorem dX9_lays_103 : decode cX9_lays 103 = .ok (.ixor, 1) := by decide +kernel
theorem dX9_lays_104 : decode cX9_lays 104 = .ok (.iand, 1) := by decide +kernel
theorem dX9_lays_105 : decode cX9_lays 105 = .ok (.iastore, 1) := by decide +kernel
theorem dX9_lays_106 : decode cX9_lays 106 = .ok (.aload_n 0, 1) := by decide +kernel
theorem dX9_lays_107 : decode cX9_lays 107 = .ok (.iconst 0, 1) := by decide +kernel
theorem dX9_lays_108 : decode cX9_lays 108 = .ok (.putfield 88, 3) := by decide +kernel
theorem dX9_lays_111 : decode cX9_lays 111 = .ok (.aload_n 0, 1) := by decide +kernel
theorem dX9_lays_112 : decode cX9_lays 112 = .ok (.iconst 0, 1) := by decide +kernel
theorem dX9_lays_113 : decode cX9_lays 113 = .ok (.putfield 91, 3) := by decide +kernel
theorem dX9_lays_116 : decode cX9_lays 116 = .ok (.return_, 1) := by decide +kernel
theorem dX9_lay_0 : decode cX9_lay 0 = .ok (.aload_n 0, 1) := by decide +kernel
theorem dX9_lay_1 : decode cX9_lay 1 = .ok (.invokevirtual 84, 3) := by decide +kernel
theorem dX9_lay_4 : decode cX9_lay 4 = .ok (.bipush (-4), 2) := by decide +kernel
theorem dX9_lay_6 : decode cX9_lay 6 = .ok (.if_icmp .ne 12, 3) := by decide +kernel
theorem dX9_lay_9 : decode cX9_lay 9 = .ok (.aload_n 0, 1) := by decide +kernel
theorem dX9_lay_10 : decode cX9_lay 10 = .ok (.getfield 16, 3) := by decide +kernel
theorem dX9_lay_13 : decode cX9_lay 13 = .ok (.iconst 0, 1) := by decide +kernel
theorem dX9_lay_14 : decode cX9_lay 14 = .ok (.iaload, 1) := by decide +kernel
theorem dX9_lay_15 : decode cX9_lay 15 = .ok (.ifCond .ne 6, 3) := by decide +kernel
theorem dX9_lay_18 : decode cX9_lay 18 = .ok (.bipush (-2), 2) := by decide +kernel
theorem dX9_lay_20 : decode cX9_lay 20 = .ok (.ireturn, 1) := by decide +kernel
theorem dX9_lay_21 : decode cX9_lay 21 = .ok (.aload_n 0, 1) := by decide +kernel
theorem dX9_lay_22 : decode cX9_lay 22 = .ok (.invokevirtual 49, 3) := by decide +kernel
theorem dX9_lay_25 : decode cX9_lay 25 = .ok (.aload_n 0, 1) := by decide +kernel
theorem dX9_lay_26 : decode cX9_lay 26 = .ok (.getfield 13, 3) := by decide +kernel
theorem dX9_lay_29 : decode cX9_lay 29 = .ok (.iconst 0, 1) := by decide +kernel
theorem dX9_lay_30 : decode cX9_lay 30 = .ok (.iaload, 1) := by decide +kernel
theorem dX9_lay_31 : decode cX9_lay 31 = .ok (.ireturn, 1) := by decide +kernel
theorem dX9_hasFallen_0 : decode cX9_hasFallen 0 = .ok (.aload_n 0, 1) := by decide +kernel
theorem dX9_hasFallen_1 : decode cX9_hasFallen 1 = .ok (.getfield 22, 3) := by decide +kernel
theorem dX9_hasFallen_4 : decode cX9_hasFallen 4 = .ok (.iconst 2, 1) := by decide +kernel
theorem dX9_hasFallen_5 : decode cX9_hasFallen 5 = .ok (.iaload, 1) := by decide +kernel
theorem dX9_hasFallen_6 : decode cX9_hasFallen 6 = .ok (.iload_n 1, 1) := by decide +kernel
theorem dX9_hasFallen_7 : decode cX9_hasFallen 7 = .ok (.invokestatic 94, 3) := by decide +kernel
theorem dX9_hasFallen_10 : decode cX9_hasFallen 10 = .ok (.ireturn, 1) := by decide +kernel
theorem dX9_load_0 : decode cX9_load 0 = .ok (.iload_n 1, 1) := by decide +kernel
theorem dX9_load_1 : decode cX9_load 1 = .ok (.ifCond .le 28, 3) := by decide +kernel
theorem dX9_load_4 : decode cX9_load 4 = .ok (.aload_n 0, 1) := by decide +kernel
theorem dX9_load_5 : decode cX9_load 5 = .ok (.iload_n 1, 1) := by decide +kernel
theorem dX9_load_6 : decode cX9_load 6 = .ok (.iconst 1, 1) := by decide +kernel
theorem dX9_load_7 : decode cX9_load 7 = .ok (.isub, 1) := by decide +kernel
theorem dX9_load_8 : decode cX9_load 8 = .ok (.invokevirtual 98, 3) := by decide +kernel
theorem dX9_load_11 : decode cX9_load 11 = .ok (.ifCond .eq 18, 3) := by decide +kernel
theorem dX9_load_14 : decode cX9_load 14 = .ok (.aload_n 0, 1) := by decide +kernel
theorem dX9_load_15 : decode cX9_load 15 = .ok (.getfield 13, 3) := by decide +kernel
theorem dX9_load_18 : decode cX9_load 18 = .ok (.iconst 4, 1) := by decide +kernel
theorem dX9_load_19 : decode cX9_load 19 = .ok (.iload_n 1, 1) := by decide +kernel
theorem dX9_load_20 : decode cX9_load 20 = .ok (.iadd, 1) := by decide +kernel
theorem dX9_load_21 : decode cX9_load 21 = .ok (.iconst 1, 1) := by decide +kernel
theorem dX9_load_22 : decode cX9_load 22 = .ok (.isub, 1) := by decide +kernel
theorem dX9_load_23 : decode cX9_load 23 = .ok (.iaload, 1) := by decide +kernel
theorem dX9_load_24 : decode cX9_load 24 = .ok (.iconst 2, 1) := by decide +kernel
theorem dX9_load_25 : decode cX9_load 25 = .ok (.idiv, 1) := by decide +kernel
theorem dX9_load_26 : decode cX9_load 26 = .ok (.goto 4, 3) := by decide +kernel
theorem dX9_load_29 : decode cX9_load 29 = .ok (.iconst 0, 1) := by decide +kernel
theorem dX9_load_30 : decode cX9_load 30 = .ok (.istore_n 2, 1) := by decide +kernel
theorem dX9_load_31 : decode cX9_load 31 = .ok (.iload_n 1, 1) := by decide +kernel
theorem dX9_load_32 : decode cX9_load 32 = .ok (.aload_n 0, 1) := by decide +kernel
theorem dX9_load_33 : decode cX9_load 33 = .ok (.getfield 13, 3) := by decide +kernel
theorem dX9_load_36 : decode cX9_load 36 = .ok (.iconst 0, 1) := by decide +kernel
theorem dX9_load_37 : decode cX9_load 37 = .ok (.iaload, 1) := by decide +kernel
theorem dX9_load_38 : decode cX9_load 38 = .ok (.iconst 1, 1) := by decide +kernel
theorem dX9_load_39 : decode cX9_load 39 = .ok (.isub, 1) := by decide +kernel
theorem dX9_load_40 : decode cX9_load 40 = .ok (.if_icmp .ge 28, 3) := by decide +kernel
theorem dX9_load_43 : decode cX9_load 43 = .ok (.aload_n 0, 1) := by decide +kernel
theorem dX9_load_44 : decode cX9_load 44 = .ok (.iload_n 1, 1) := by decide +kernel
theorem dX9_load_45 : decode cX9_load 45 = .ok (.iconst 1, 1) := by decide +kernel
theorem dX9_load_46 : decode cX9_load 46 = .ok (.iadd, 1) := by decide +kernel
theorem dX9_load_47 : decode cX9_load 47 = .ok (.invokevirtual 98, 3) := by decide +kernel
theorem dX9_load_50 : decode cX9_load 50 = .ok (.ifCond .eq 18, 3) := by decide +kernel
theorem dX9_load_53 : decode cX9_load 53 = .ok (.aload_n 0, 1) := by decide +kernel
theorem dX9_load_54 : decode cX9_load 54 = .ok (.getfield 13, 3) := by decide +kernel
theorem dX9_load_57 : decode cX9_load 57 = .ok (.iconst 4, 1) := by decide +kernel
theorem dX9_load_58 : decode cX9_load 58 = .ok (.iload_n 1, 1) := by decide +kernel
theorem dX9_load_59 : decode cX9_load 59 = .ok (.iadd, 1) := by decide +kernel
theorem dX9_load_60 : decode cX9_load 60 = .ok (.iconst 1, 1) := by decide +kernel
theorem dX9_load_61 : decode cX9_load 61 = .ok (.iadd, 1) := by decide +kernel
theorem dX9_load_62 : decode cX9_load 62 = .ok (.iaload, 1) := by decide +kernel
theorem dX9_load_63 : decode cX9_load 63 = .ok (.iconst 2, 1) := by decide +kernel
theorem dX9_load_64 : decode cX9_load 64 = .ok (.idiv, 1) := by decide +kernel
theorem dX9_load_65 : decode cX9_load 65 = .ok (.goto 4, 3) := by decide +kernel
theorem dX9_load_68 : decode cX9_load 68 = .ok (.iconst 0, 1) := by decide +kernel
theorem dX9_load_69 : decode cX9_load 69 = .ok (.istore_n 3, 1) := by decide +kernel
theorem dX9_load_70 : decode cX9_load 70 = .ok (.aload_n 0, 1) := by decide +kernel
theorem dX9_load_71 : decode cX9_load 71 = .ok (.getfield 13, 3) := by decide +kernel
theorem dX9_load_74 : decode cX9_load 74 = .ok (.iconst 4, 1) := by decide +kernel
theorem dX9_load_75 : decode cX9_load 75 = .ok (.iload_n 1, 1) := by decide +kernel
theorem dX9_load_76 : decode cX9_load 76 = .ok (.iadd, 1) := by decide +kernel
theorem dX9_load_77 : decode cX9_load 77 = .ok (.iaload, 1) := by decide +kernel
theorem dX9_load_78 : decode cX9_load 78 = .ok (.iload_n 2, 1) := by decide +kernel
theorem dX9_load_79 : decode cX9_load 79 = .ok (.iadd, 1) := by decide +kernel
theorem dX9_load_80 : decode cX9_load 80 = .ok (.iload_n 3, 1) := by decide +kernel
theorem dX9_load_81 : decode cX9_load 81 = .ok (.iadd, 1) := by decide +kernel
theorem dX9_load_82 : decode cX9_load 82 = .ok (.ireturn, 1) := by decide +kernel
theorem dX9_strengths_0 : decode cX9_strengths 0 = .ok (.iconst 0, 1) := by decide +kernel
theorem dX9_strengths_1 : decode cX9_strengths 1 = .ok (.istore_n 2, 1) := by decide +kernel
theorem dX9_strengths_2 : decode cX9_strengths 2 = .ok (.iconst 0, 1) := by decide +kernel
theorem dX9_strengths_3 : decode cX9_strengths 3 = .ok (.istore_n 3, 1) := by decide +kernel
theorem dX9_strengths_4 : decode cX9_strengths 4 = .ok (.iload_n 3, 1) := by decide +kernel
theorem dX9_strengths_5 : decode cX9_strengths 5 = .ok (.aload_n 0, 1) := by decide +kernel
theorem dX9_strengths_6 : decode cX9_strengths 6 = .ok (.getfield 13, 3) := by decide +kernel
theorem dX9_strengths_9 : decode cX9_strengths 9 = .ok (.iconst 1, 1) := by decide +kernel
theorem dX9_strengths_10 : decode cX9_strengths 10 = .ok (.iaload, 1) := by decide +kernel
theorem dX9_strengths_11 : decode cX9_strengths 11 = .ok (.if_icmp .ge 51, 3) := by decide +kernel
theorem dX9_strengths_14 : decode cX9_strengths 14 = .ok (.iload_n 2, 1) := by decide +kernel
theorem dX9_strengths_15 : decode cX9_strengths 15 = .ok (.aload_n 0, 1) := by decide +kernel
theorem dX9_strengths_16 : decode cX9_strengths 16 = .ok (.getfield 22, 3) := by decide +kernel
theorem dX9_strengths_19 : decode cX9_strengths 19 = .ok (.iconst 1, 1) := by decide +kernel
theorem dX9_strengths_20 : decode cX9_strengths 20 = .ok (.iaload, 1) := by decide +kernel
theorem dX9_strengths_21 : decode cX9_strengths 21 = .ok (.iload_n 3, 1) := by decide +kernel
theorem dX9_strengths_22 : decode cX9_strengths 22 = .ok (.invokestatic 94, 3) := by decide +kernel
theorem dX9_strengths_25 : decode cX9_strengths 25 = .ok (.ifCond .eq 28, 3) := by decide +kernel
theorem dX9_strengths_28 : decode cX9_strengths 28 = .ok (.aload_n 0, 1) := by decide +kernel
theorem dX9_strengths_29 : decode cX9_strengths 29 = .ok (.getfield 22, 3) := by decide +kernel
theorem dX9_strengths_32 : decode cX9_strengths 32 = .ok (.bipush 9, 2) := by decide +kernel
theorem dX9_strengths_34 : decode cX9_strengths 34 = .ok (.iload_n 3, 1) := by decide +kernel
theorem dX9_strengths_35 : decode cX9_strengths 35 = .ok (.iadd, 1) := by decide +kernel
theorem dX9_strengths_36 : decode cX9_strengths 36 = .ok (.iaload, 1) := by decide +kernel
theorem dX9_strengths_37 : decode cX9_strengths 37 = .ok (.iload_n 1, 1) := by decide +kernel
theorem dX9_strengths_38 : decode cX9_strengths 38 = .ok (.if_icmp .ne 15, 3) := by decide +kernel
theorem dX9_strengths_41 : decode cX9_strengths 41 = .ok (.aload_n 0, 1) := by decide +kernel
theorem dX9_strengths_42 : decode cX9_strengths 42 = .ok (.getfield 13, 3) := by decide +kernel
theorem dX9_strengths_45 : decode cX9_strengths 45 = .ok (.bipush 26, 2) := by decide +kernel
theorem dX9_strengths_47 : decode cX9_strengths 47 = .ok (.iload_n 3, 1) := by decide +kernel
theorem dX9_strengths_48 : decode cX9_strengths 48 = .ok (.iadd, 1) := by decide +kernel
theorem dX9_strengths_49 : decode cX9_strengths 49 = .ok (.iaload, 1) := by decide +kernel
theorem dX9_strengths_50 : decode cX9_strengths 50 = .ok (.goto 4, 3) := by decide +kernel
theorem dX9_strengths_53 : decode cX9_strengths 53 = .ok (.iconst 0, 1) := by decide +kernel
theorem dX9_strengths_54 : decode cX9_strengths 54 = .ok (.iadd, 1) := by decide +kernel
theorem dX9_strengths_55 : decode cX9_strengths 55 = .ok (.istore_n 2, 1) := by decide +kernel
theorem dX9_strengths_56 : decode cX9_strengths 56 = .ok (.iinc 3 1, 3) := by decide +kernel
theorem dX9_strengths_59 : decode cX9_strengths 59 = .ok (.goto (-55), 3) := by decide +kernel
theorem dX9_strengths_62 : decode cX9_strengths 62 = .ok (.iload_n 2, 1) := by decide +kernel
theorem dX9_strengths_63 : decode cX9_strengths 63 = .ok (.ireturn, 1) := by decide +kernel
theorem dX9_helps_0 : decode cX9_helps 0 = .ok (.aload_n 0, 1) := by decide +kernel
theorem dX9_helps_1 : decode cX9_helps 1 = .ok (.iload_n 1, 1) := by decide +kernel
theorem dX9_helps_2 : decode cX9_helps 2 = .ok (.invokevirtual 101, 3) := by decide +kernel
theorem dX9_helps_5 : decode cX9_helps 5 = .ok (.ifCond .eq 11, 3) := by decide +kernel
theorem dX9_helps_8 : decode cX9_helps 8 = .ok (.aload_n 0, 1) := by decide +kernel
theorem dX9_helps_9 : decode cX9_helps 9 = .ok (.iload_n 1, 1) := by decide +kernel
theorem dX9_helps_10 : decode cX9_helps 10 = .ok (.invokevirtual 98, 3) := by decide +kernel
theorem dX9_helps_13 : decode cX9_helps 13 = .ok (.ifCond .eq 5, 3) := by decide +kernel
theorem dX9_helps_16 : decode cX9_helps 16 = .ok (.iconst 0, 1) := by decide +kernel
theorem dX9_helps_17 : decode cX9_helps 17 = .ok (.ireturn, 1) := by decide +kernel
theorem dX9_helps_18 : decode cX9_helps 18 = .ok (.aload_n 0, 1) := by decide +kernel
theorem dX9_helps_19 : decode cX9_helps 19 = .ok (.iload_n 1, 1) := by decide +kernel
theorem dX9_helps_20 : decode cX9_helps 20 = .ok (.invokevirtual 104, 3) := by decide +kernel
theorem dX9_helps_23 : decode cX9_helps 23 = .ok (.aload_n 0, 1) := by decide +kernel
theorem dX9_helps_24 : decode cX9_helps 24 = .ok (.iload_n 1, 1) := by decide +kernel
theorem dX9_helps_25 : decode cX9_helps 25 = .ok (.invokevirtual 107, 3) := by decide +kernel
theorem dX9_helps_28 : decode cX9_helps 28 = .ok (.isub, 1) := by decide +kernel
theorem dX9_helps_29 : decode cX9_helps 29 = .ok (.istore_n 2, 1) := by decide +kernel
theorem dX9_helps_30 : decode cX9_helps 30 = .ok (.iload_n 2, 1) := by decide +kernel
theorem dX9_helps_31 : decode cX9_helps 31 = .ok (.ifCond .le 9, 3) := by decide +kernel
theorem dX9_helps_34 : decode cX9_helps 34 = .ok (.iload_n 2, 1) := by decide +kernel
theorem dX9_helps_35 : decode cX9_helps 35 = .ok (.iconst 2, 1) := by decide +kernel
theorem dX9_helps_36 : decode cX9_helps 36 = .ok (.idiv, 1) := by decide +kernel
theorem dX9_helps_37 : decode cX9_helps 37 = .ok (.goto 4, 3) := by decide +kernel
theorem dX9_helps_40 : decode cX9_helps 40 = .ok (.iconst 0, 1) := by decide +kernel
theorem dX9_helps_41 : decode cX9_helps 41 = .ok (.ireturn, 1) := by decide +kernel
theorem dX9_props_0 : decode cX9_props 0 = .ok (.aload_n 0, 1) := by decide +kernel
theorem dX9_props_1 : decode cX9_props 1 = .ok (.iload_n 1, 1) := by decide +kernel
theorem dX9_props_2 : decode cX9_props 2 = .ok (.invokevirtual 104, 3) := by decide +kernel
theorem dX9_props_5 : decode cX9_props 5 = .ok (.aload_n 0, 1) := by decide +kernel
theorem dX9_props_6 : decode cX9_props 6 = .ok (.iload_n 1, 1) := by decide +kernel
theorem dX9_props_7 : decode cX9_props 7 = .ok (.iconst 1, 1) := by decide +kernel
theorem dX9_props_8 : decode cX9_props 8 = .ok (.isub, 1) := by decide +kernel
theorem dX9_props_9 : decode cX9_props 9 = .ok (.invokevirtual 110, 3) := by decide +kernel
theorem dX9_props_12 : decode cX9_props 12 = .ok (.iadd, 1) := by decide +kernel
theorem dX9_props_13 : decode cX9_props 13 = .ok (.aload_n 0, 1) := by decide +kernel
theorem dX9_props_14 : decode cX9_props 14 = .ok (.iload_n 1, 1) := by decide +kernel
theorem dX9_props_15 : decode cX9_props 15 = .ok (.iconst 1, 1) := by decide +kernel
theorem dX9_props_16 : decode cX9_props 16 = .ok (.iadd, 1) := by decide +kernel
theorem dX9_props_17 : decode cX9_props 17 = .ok (.invokevirtual 110, 3) := by decide +kernel
theorem dX9_props_20 : decode cX9_props 20 = .ok (.iadd, 1) := by decide +kernel
theorem dX9_props_21 : decode cX9_props 21 = .ok (.ireturn, 1) := by decide +kernel
theorem dX9_isHeld_0 : decode cX9_isHeld 0 = .ok (.aload_n 0, 1) := by decide +kernel
theorem dX9_isHeld_1 : decode cX9_isHeld 1 = .ok (.iload_n 1, 1) := by decide +kernel
theorem dX9_isHeld_2 : decode cX9_isHeld 2 = .ok (.invokevirtual 98, 3) := by decide +kernel
theorem dX9_isHeld_5 : decode cX9_isHeld 5 = .ok (.ifCond .ne 20, 3) := by decide +kernel
theorem dX9_isHeld_8 : decode cX9_isHeld 8 = .ok (.aload_n 0, 1) := by decide +kernel
theorem dX9_isHeld_9 : decode cX9_isHeld 9 = .ok (.iload_n 1, 1) := by decide +kernel
theorem dX9_isHeld_10 : decode cX9_isHeld 10 = .ok (.invokevirtual 113, 3) := by decide +kernel
theorem dX9_isHeld_13 : decode cX9_isHeld 13 = .ok (.aload_n 0, 1) := by decide +kernel
theorem dX9_isHeld_14 : decode cX9_isHeld 14 = .ok (.iload_n 1, 1) := by decide +kernel
theorem dX9_isHeld_15 : decode cX9_isHeld 15 = .ok (.invokevirtual 107, 3) := by decide +kernel
theorem dX9_isHeld_18 : decode cX9_isHeld 18 = .ok (.if_icmp .lt 7, 3) := by decide +kernel
theorem dX9_isHeld_21 : decode cX9_isHeld 21 = .ok (.iconst 1, 1) := by decide +kernel
theorem dX9_isHeld_22 : decode cX9_isHeld 22 = .ok (.goto 4, 3) := by decide +kernel
theorem dX9_isHeld_25 : decode cX9_isHeld 25 = .ok (.iconst 0, 1) := by decide +kernel
theorem dX9_isHeld_26 : decode cX9_isHeld 26 = .ok (.ireturn, 1) := by decide +kernel
theorem dX9_heldNow_0 : decode cX9_heldNow 0 = .ok (.iconst 0, 1) := by decide +kernel
theorem dX9_heldNow_1 : decode cX9_heldNow 1 = .ok (.istore_n 1, 1) := by decide +kernel
theorem dX9_heldNow_2 : decode cX9_heldNow 2 = .ok (.iconst 0, 1) := by decide +kernel
theorem dX9_heldNow_3 : decode cX9_heldNow 3 = .ok (.istore_n 2, 1) := by decide +kernel
theorem dX9_heldNow_4 : decode cX9_heldNow 4 = .ok (.iload_n 2, 1) := by decide +kernel
theorem dX9_heldNow_5 : decode cX9_heldNow 5 = .ok (.aload_n 0, 1) := by decide +kernel
theorem dX9_heldNow_6 : decode cX9_heldNow 6 = .ok (.getfield 13, 3) := by decide +kernel
theorem dX9_heldNow_9 : decode cX9_heldNow 9 = .ok (.iconst 0, 1) := by decide +kernel
theorem dX9_heldNow_10 : decode cX9_heldNow 10 = .ok (.iaload, 1) := by decide +kernel
theorem dX9_heldNow_11 : decode cX9_heldNow 11 = .ok (.if_icmp .ge 27, 3) := by decide +kernel
theorem dX9_heldNow_14 : decode cX9_heldNow 14 = .ok (.iload_n 1, 1) := by decide +kernel
theorem dX9_heldNow_15 : decode cX9_heldNow 15 = .ok (.aload_n 0, 1) := by decide +kernel
theorem dX9_heldNow_16 : decode cX9_heldNow 16 = .ok (.iload_n 2, 1) := by decide +kernel
theorem dX9_heldNow_17 : decode cX9_heldNow 17 = .ok (.invokevirtual 116, 3) := by decide +kernel
theorem dX9_heldNow_20 : decode cX9_heldNow 20 = .ok (.ifCond .eq 9, 3) := by decide +kernel
theorem dX9_heldNow_23 : decode cX9_heldNow 23 = .ok (.iconst 1, 1) := by decide +kernel
theorem dX9_heldNow_24 : decode cX9_heldNow 24 = .ok (.iload_n 2, 1) := by decide +kernel
theorem dX9_heldNow_25 : decode cX9_heldNow 25 = .ok (.ishl, 1) := by decide +kernel
theorem dX9_heldNow_26 : decode cX9_heldNow 26 = .ok (.goto 4, 3) := by decide +kernel
theorem dX9_heldNow_29 : decode cX9_heldNow 29 = .ok (.iconst 0, 1) := by decide +kernel
theorem dX9_heldNow_30 : decode cX9_heldNow 30 = .ok (.ior, 1) := by decide +kernel
theorem dX9_heldNow_31 : decode cX9_heldNow 31 = .ok (.istore_n 1, 1) := by decide +kernel
theorem dX9_heldNow_32 : decode cX9_heldNow 32 = .ok (.iinc 2 1, 3) := by decide +kernel
theorem dX9_heldNow_35 : decode cX9_heldNow 35 = .ok (.goto (-31), 3) := by decide +kernel
theorem dX9_heldNow_38 : decode cX9_heldNow 38 = .ok (.iload_n 1, 1) := by decide +kernel
theorem dX9_heldNow_39 : decode cX9_heldNow 39 = .ok (.ireturn, 1) := by decide +kernel
theorem dX9_bay_0 : decode cX9_bay 0 = .ok (.aload_n 0, 1) := by decide +kernel
theorem dX9_bay_1 : decode cX9_bay 1 = .ok (.iload_n 1, 1) := by decide +kernel
theorem dX9_bay_2 : decode cX9_bay 2 = .ok (.invokevirtual 101, 3) := by decide +kernel
theorem dX9_bay_5 : decode cX9_bay 5 = .ok (.ifCond .eq 13, 3) := by decide +kernel
theorem dX9_bay_8 : decode cX9_bay 8 = .ok (.iload_n 2, 1) := by decide +kernel
theorem dX9_bay_9 : decode cX9_bay 9 = .ok (.iconst 0, 1) := by decide +kernel
theorem dX9_bay_10 : decode cX9_bay 10 = .ok (.bipush 6, 2) := by decide +kernel
theorem dX9_bay_12 : decode cX9_bay 12 = .ok (.invokestatic 52, 3) := by decide +kernel
theorem dX9_bay_15 : decode cX9_bay 15 = .ok (.ifCond .ne 5, 3) := by decide +kernel
theorem dX9_bay_18 : decode cX9_bay 18 = .ok (.iconst (-1), 1) := by decide +kernel
theorem dX9_bay_19 : decode cX9_bay 19 = .ok (.ireturn, 1) := by decide +kernel
theorem dX9_bay_20 : decode cX9_bay 20 = .ok (.aload_n 0, 1) := by decide +kernel
theorem dX9_bay_21 : decode cX9_bay 21 = .ok (.iload_n 1, 1) := by decide +kernel
theorem dX9_bay_22 : decode cX9_bay 22 = .ok (.invokevirtual 98, 3) := by decide +kernel
theorem dX9_bay_25 : decode cX9_bay 25 = .ok (.ifCond .eq 14, 3) := by decide +kernel
theorem dX9_bay_28 : decode cX9_bay 28 = .ok (.iload_n 2, 1) := by decide +kernel
theorem dX9_bay_29 : decode cX9_bay 29 = .ok (.iconst 2, 1) := by decide +kernel
theorem dX9_bay_30 : decode cX9_bay 30 = .ok (.iconst 5, 1) := by decide +kernel
theorem dX9_bay_31 : decode cX9_bay 31 = .ok (.invokestatic 52, 3) := by decide +kernel
theorem dX9_bay_34 : decode cX9_bay 34 = .ok (.ifCond .eq 5, 3) := by decide +kernel
theorem dX9_bay_37 : decode cX9_bay 37 = .ok (.iconst 0, 1) := by decide +kernel
theorem dX9_bay_38 : decode cX9_bay 38 = .ok (.ireturn, 1) := by decide +kernel
theorem dX9_bay_39 : decode cX9_bay 39 = .ok (.iload_n 2, 1) := by decide +kernel
theorem dX9_bay_40 : decode cX9_bay 40 = .ok (.tableswitch 95 0 5 #[40, 49, 59, 65, 71, 85], 40) := by decide +kernel
theorem dX9_bay_80 : decode cX9_bay 80 = .ok (.aload_n 0, 1) := by decide +kernel
theorem dX9_bay_81 : decode cX9_bay 81 = .ok (.getfield 13, 3) := by decide +kernel
theorem dX9_bay_84 : decode cX9_bay 84 = .ok (.iconst 4, 1) := by decide +kernel
theorem dX9_bay_85 : decode cX9_bay 85 = .ok (.iload_n 1, 1) := by decide +kernel
theorem dX9_bay_86 : decode cX9_bay 86 = .ok (.iadd, 1) := by decide +kernel
theorem dX9_bay_87 : decode cX9_bay 87 = .ok (.iaload, 1) := by decide +kernel
theorem dX9_bay_88 : decode cX9_bay 88 = .ok (.ireturn, 1) := by decide +kernel
theorem dX9_bay_89 : decode cX9_bay 89 = .ok (.aload_n 0, 1) := by decide +kernel
theorem dX9_bay_90 : decode cX9_bay 90 = .ok (.getfield 13, 3) := by decide +kernel
theorem dX9_bay_93 : decode cX9_bay 93 = .ok (.bipush 12, 2) := by decide +kernel
theorem dX9_bay_95 : decode cX9_bay 95 = .ok (.iload_n 1, 1) := by decide +kernel
theorem dX9_bay_96 : decode cX9_bay 96 = .ok (.iadd, 1) := by decide +kernel
theorem dX9_bay_97 : decode cX9_bay 97 = .ok (.iaload, 1) := by decide +kernel
theorem dX9_bay_98 : decode cX9_bay 98 = .ok (.ireturn, 1) := by decide +kernel
theorem dX9_bay_99 : decode cX9_bay 99 = .ok (.aload_n 0, 1) := by decide +kernel
theorem dX9_bay_100 : decode cX9_bay 100 = .ok (.iload_n 1, 1) := by decide +kernel
theorem dX9_bay_101 : decode cX9_bay 101 = .ok (.invokevirtual 107, 3) := by decide +kernel
theorem dX9_bay_104 : decode cX9_bay 104 = .ok (.ireturn, 1) := by decide +kernel
theorem dX9_bay_105 : decode cX9_bay 105 = .ok (.aload_n 0, 1) := by decide +kernel
theorem dX9_bay_106 : decode cX9_bay 106 = .ok (.iload_n 1, 1) := by decide +kernel
theorem dX9_bay_107 : decode cX9_bay 107 = .ok (.invokevirtual 113, 3) := by decide +kernel
theorem dX9_bay_110 : decode cX9_bay 110 = .ok (.ireturn, 1) := by decide +kernel
theorem dX9_bay_111 : decode cX9_bay 111 = .ok (.aload_n 0, 1) := by decide +kernel
theorem dX9_bay_112 : decode cX9_bay 112 = .ok (.iload_n 1, 1) := by decide +kernel
theorem dX9_bay_113 : decode cX9_bay 113 = .ok (.invokevirtual 116, 3) := by decide +kernel
theorem dX9_bay_116 : decode cX9_bay 116 = .ok (.ifCond .eq 7, 3) := by decide +kernel
theorem dX9_bay_119 : decode cX9_bay 119 = .ok (.iconst 1, 1) := by decide +kernel
theorem dX9_bay_120 : decode cX9_bay 120 = .ok (.goto 4, 3) := by decide +kernel
theorem dX9_bay_123 : decode cX9_bay 123 = .ok (.iconst 0, 1) := by decide +kernel
theorem dX9_bay_124 : decode cX9_bay 124 = .ok (.ireturn, 1) := by decide +kernel
theorem dX9_bay_125 : decode cX9_bay 125 = .ok (.aload_n 0, 1) := by decide +kernel
theorem dX9_bay_126 : decode cX9_bay 126 = .ok (.getfield 22, 3) := by decide +kernel
theorem dX9_bay_129 : decode cX9_bay 129 = .ok (.bipush 15, 2) := by decide +kernel
theorem dX9_bay_131 : decode cX9_bay 131 = .ok (.iload_n 1, 1) := by decide +kernel
theorem dX9_bay_132 : decode cX9_bay 132 = .ok (.iadd, 1) := by decide +kernel
theorem dX9_bay_133 : decode cX9_bay 133 = .ok (.iaload, 1) := by decide +kernel
theorem dX9_bay_134 : decode cX9_bay 134 = .ok (.ireturn, 1) := by decide +kernel
theorem dX9_bay_135 : decode cX9_bay 135 = .ok (.aload_n 0, 1) := by decide +kernel
theorem dX9_bay_136 : decode cX9_bay 136 = .ok (.iload_n 1, 1) := by decide +kernel
theorem dX9_bay_137 : decode cX9_bay 137 = .ok (.invokevirtual 98, 3) := by decide +kernel
theorem dX9_bay_140 : decode cX9_bay 140 = .ok (.ifCond .eq 7, 3) := by decide +kernel
theorem dX9_bay_143 : decode cX9_bay 143 = .ok (.iconst 1, 1) := by decide +kernel
theorem dX9_bay_144 : decode cX9_bay 144 = .ok (.goto 4, 3) := by decide +kernel
theorem dX9_bay_147 : decode cX9_bay 147 = .ok (.iconst 0, 1) := by decide +kernel
theorem dX9_bay_148 : decode cX9_bay 148 = .ok (.ireturn, 1) := by decide +kernel
theorem dX9_buttress_0 : decode cX9_buttress 0 = .ok (.aload_n 0, 1) := by decide +kernel
theorem dX9_buttress_1 : decode cX9_buttress 1 = .ok (.iload_n 1, 1) := by decide +kernel
theorem dX9_buttress_2 : decode cX9_buttress 2 = .ok (.invokevirtual 119, 3) := by decide +kernel
theorem dX9_buttress_5 : decode cX9_buttress 5 = .ok (.ifCond .ne 5, 3) := by decide +kernel
theorem dX9_buttress_8 : decode cX9_buttress 8 = .ok (.iconst (-1), 1) := by decide +kernel
theorem dX9_buttress_9 : decode cX9_buttress 9 = .ok (.ireturn, 1) := by decide +kernel
theorem dX9_buttress_10 : decode cX9_buttress 10 = .ok (.iload_n 2, 1) := by decide +kernel
theorem dX9_buttress_11 : decode cX9_buttress 11 = .ok (.tableswitch 97 0 5 #[37, 47, 57, 67, 77, 86], 37) := by decide +kernel
theorem dX9_buttress_48 : decode cX9_buttress 48 = .ok (.aload_n 0, 1) := by decide +kernel
theorem dX9_buttress_49 : decode cX9_buttress 49 = .ok (.getfield 13, 3) := by decide +kernel
theorem dX9_buttress_52 : decode cX9_buttress 52 = .ok (.bipush 20, 2) := by decide +kernel
theorem dX9_buttress_54 : decode cX9_buttress 54 = .ok (.iload_n 1, 1) := by decide +kernel
theorem dX9_buttress_55 : decode cX9_buttress 55 = .ok (.iadd, 1) := by decide +kernel
theorem dX9_buttress_56 : decode cX9_buttress 56 = .ok (.iaload, 1) := by decide +kernel
theorem dX9_buttress_57 : decode cX9_buttress 57 = .ok (.ireturn, 1) := by decide +kernel
theorem dX9_buttress_58 : decode cX9_buttress 58 = .ok (.aload_n 0, 1) := by decide +kernel
theorem dX9_buttress_59 : decode cX9_buttress 59 = .ok (.getfield 13, 3) := by decide +kernel
theorem dX9_buttress_62 : decode cX9_buttress 62 = .ok (.bipush 26, 2) := by decide +kernel
theorem dX9_buttress_64 : decode cX9_buttress 64 = .ok (.iload_n 1, 1) := by decide +kernel
theorem dX9_buttress_65 : decode cX9_buttress 65 = .ok (.iadd, 1) := by decide +kernel
theorem dX9_buttress_66 : decode cX9_buttress 66 = .ok (.iaload, 1) := by decide +kernel
theorem dX9_buttress_67 : decode cX9_buttress 67 = .ok (.ireturn, 1) := by decide +kernel
theorem dX9_buttress_68 : decode cX9_buttress 68 = .ok (.aload_n 0, 1) := by decide +kernel
theorem dX9_buttress_69 : decode cX9_buttress 69 = .ok (.getfield 22, 3) := by decide +kernel
theorem dX9_buttress_72 : decode cX9_buttress 72 = .ok (.bipush 9, 2) := by decide +kernel
theorem dX9_buttress_74 : decode cX9_buttress 74 = .ok (.iload_n 1, 1) := by decide +kernel
theorem dX9_buttress_75 : decode cX9_buttress 75 = .ok (.iadd, 1) := by decide +kernel
theorem dX9_buttress_76 : decode cX9_buttress 76 = .ok (.iaload, 1) := by decide +kernel
theorem dX9_buttress_77 : decode cX9_buttress 77 = .ok (.ireturn, 1) := by decide +kernel
theorem dX9_buttress_78 : decode cX9_buttress 78 = .ok (.aload_n 0, 1) := by decide +kernel
theorem dX9_buttress_79 : decode cX9_buttress 79 = .ok (.getfield 13, 3) := by decide +kernel
theorem dX9_buttress_82 : decode cX9_buttress 82 = .ok (.bipush 32, 2) := by decide +kernel
theorem dX9_buttress_84 : decode cX9_buttress 84 = .ok (.iload_n 1, 1) := by decide +kernel
theorem dX9_buttress_85 : decode cX9_buttress 85 = .ok (.iadd, 1) := by decide +kernel
theorem dX9_buttress_86 : decode cX9_buttress 86 = .ok (.iaload, 1) := by decide +kernel
theorem dX9_buttress_87 : decode cX9_buttress 87 = .ok (.ireturn, 1) := by decide +kernel
theorem dX9_buttress_88 : decode cX9_buttress 88 = .ok (.aload_n 0, 1) := by decide +kernel
theorem dX9_buttress_89 : decode cX9_buttress 89 = .ok (.getfield 22, 3) := by decide +kernel
theorem dX9_buttress_92 : decode cX9_buttress 92 = .ok (.iconst 3, 1) := by decide +kernel
theorem dX9_buttress_93 : decode cX9_buttress 93 = .ok (.iload_n 1, 1) := by decide +kernel
theorem dX9_buttress_94 : decode cX9_buttress 94 = .ok (.iadd, 1) := by decide +kernel
theorem dX9_buttress_95 : decode cX9_buttress 95 = .ok (.iaload, 1) := by decide +kernel
theorem dX9_buttress_96 : decode cX9_buttress 96 = .ok (.ireturn, 1) := by decide +kernel
theorem dX9_buttress_97 : decode cX9_buttress 97 = .ok (.aload_n 0, 1) := by decide +kernel
theorem dX9_buttress_98 : decode cX9_buttress 98 = .ok (.getfield 22, 3) := by decide +kernel
theorem dX9_buttress_101 : decode cX9_buttress 101 = .ok (.iconst 1, 1) := by decide +kernel
theorem dX9_buttress_102 : decode cX9_buttress 102 = .ok (.iaload, 1) := by decide +kernel
theorem dX9_buttress_103 : decode cX9_buttress 103 = .ok (.iload_n 1, 1) := by decide +kernel
theorem dX9_buttress_104 : decode cX9_buttress 104 = .ok (.ishr, 1) := by decide +kernel
theorem dX9_buttress_105 : decode cX9_buttress 105 = .ok (.iconst 1, 1) := by decide +kernel
theorem dX9_buttress_106 : decode cX9_buttress 106 = .ok (.iand, 1) := by decide +kernel
theorem dX9_buttress_107 : decode cX9_buttress 107 = .ok (.ireturn, 1) := by decide +kernel
theorem dX9_buttress_108 : decode cX9_buttress 108 = .ok (.iconst (-1), 1) := by decide +kernel
theorem dX9_buttress_109 : decode cX9_buttress 109 = .ok (.ireturn, 1) := by decide +kernel
theorem dX9_areCarts_0 : decode cX9_areCarts 0 = .ok (.aload_n 0, 1) := by decide +kernel
theorem dX9_areCarts_1 : decode cX9_areCarts 1 = .ok (.getfield 13, 3) := by decide +kernel
theorem dX9_areCarts_4 : decode cX9_areCarts 4 = .ok (.iconst 2, 1) := by decide +kernel
theorem dX9_areCarts_5 : decode cX9_areCarts 5 = .ok (.iaload, 1) := by decide +kernel
theorem dX9_areCarts_6 : decode cX9_areCarts 6 = .ok (.ifCond .le 27, 3) := by decide +kernel
theorem dX9_areCarts_9 : decode cX9_areCarts 9 = .ok (.aload_n 0, 1) := by decide +kernel
theorem dX9_areCarts_10 : decode cX9_areCarts 10 = .ok (.getfield 13, 3) := by decide +kernel
theorem dX9_areCarts_13 : decode cX9_areCarts 13 = .ok (.iconst 3, 1) := by decide +kernel
theorem dX9_areCarts_14 : decode cX9_areCarts 14 = .ok (.iaload, 1) := by decide +kernel
theorem dX9_areCarts_15 : decode cX9_areCarts 15 = .ok (.iload_n 1, 1) := by decide +kernel
theorem dX9_areCarts_16 : decode cX9_areCarts 16 = .ok (.aload_n 0, 1) := by decide +kernel
theorem dX9_areCarts_17 : decode cX9_areCarts 17 = .ok (.getfield 13, 3) := by decide +kernel
theorem dX9_areCarts_20 : decode cX9_areCarts 20 = .ok (.iconst 2, 1) := by decide +kernel
theorem dX9_areCarts_21 : decode cX9_areCarts 21 = .ok (.iaload, 1) := by decide +kernel
theorem dX9_areCarts_22 : decode cX9_areCarts 22 = .ok (.irem, 1) := by decide +kernel
theorem dX9_areCarts_23 : decode cX9_areCarts 23 = .ok (.invokestatic 94, 3) := by decide +kernel
theorem dX9_areCarts_26 : decode cX9_areCarts 26 = .ok (.ifCond .eq 7, 3) := by decide +kernel
theorem dX9_areCarts_29 : decode cX9_areCarts 29 = .ok (.iconst 1, 1) := by decide +kernel
theorem dX9_areCarts_30 : decode cX9_areCarts 30 = .ok (.goto 4, 3) := by decide +kernel
theorem dX9_areCarts_33 : decode cX9_areCarts 33 = .ok (.iconst 0, 1) := by decide +kernel
theorem dX9_areCarts_34 : decode cX9_areCarts 34 = .ok (.ireturn, 1) := by decide +kernel
theorem dX9_carts_0 : decode cX9_carts 0 = .ok (.iload_n 1, 1) := by decide +kernel
theorem dX9_carts_1 : decode cX9_carts 1 = .ok (.iconst 0, 1) := by decide +kernel
theorem dX9_carts_2 : decode cX9_carts 2 = .ok (.bipush 99, 2) := by decide +kernel
theorem dX9_carts_4 : decode cX9_carts 4 = .ok (.invokestatic 52, 3) := by decide +kernel
theorem dX9_carts_7 : decode cX9_carts 7 = .ok (.ifCond .ne 5, 3) := by decide +kernel
theorem dX9_carts_10 : decode cX9_carts 10 = .ok (.iconst (-1), 1) := by decide +kernel
theorem dX9_carts_11 : decode cX9_carts 11 = .ok (.ireturn, 1) := by decide +kernel
theorem dX9_carts_12 : decode cX9_carts 12 = .ok (.aload_n 0, 1) := by decide +kernel
theorem dX9_carts_13 : decode cX9_carts 13 = .ok (.aload_n 0, 1) := by decide +kernel
theorem dX9_carts_14 : decode cX9_carts 14 = .ok (.getfield 22, 3) := by decide +kernel
theorem dX9_carts_17 : decode cX9_carts 17 = .ok (.iconst 0, 1) := by decide +kernel
theorem dX9_carts_18 : decode cX9_carts 18 = .ok (.iaload, 1) := by decide +kernel
theorem dX9_carts_19 : decode cX9_carts 19 = .ok (.iload_n 1, 1) := by decide +kernel
theorem dX9_carts_20 : decode cX9_carts 20 = .ok (.iadd, 1) := by decide +kernel
theorem dX9_carts_21 : decode cX9_carts 21 = .ok (.invokevirtual 122, 3) := by decide +kernel
theorem dX9_carts_24 : decode cX9_carts 24 = .ok (.ifCond .eq 7, 3) := by decide +kernel
theorem dX9_carts_27 : decode cX9_carts 27 = .ok (.iconst 1, 1) := by decide +kernel
theorem dX9_carts_28 : decode cX9_carts 28 = .ok (.goto 4, 3) := by decide +kernel
theorem dX9_carts_31 : decode cX9_carts 31 = .ok (.iconst 0, 1) := by decide +kernel
theorem dX9_carts_32 : decode cX9_carts 32 = .ok (.ireturn, 1) := by decide +kernel
theorem dX9_keeps_0 : decode cX9_keeps 0 = .ok (.aload_n 0, 1) := by decide +kernel
theorem dX9_keeps_1 : decode cX9_keeps 1 = .ok (.getfield 88, 3) := by decide +kernel
theorem dX9_keeps_4 : decode cX9_keeps 4 = .ok (.bipush 8, 2) := by decide +kernel
theorem dX9_keeps_6 : decode cX9_keeps 6 = .ok (.if_icmp .ne 43, 3) := by decide +kernel
theorem dX9_keeps_9 : decode cX9_keeps 9 = .ok (.iconst 0, 1) := by decide +kernel
theorem dX9_keeps_10 : decode cX9_keeps 10 = .ok (.istore_n 1, 1) := by decide +kernel
theorem dX9_keeps_11 : decode cX9_keeps 11 = .ok (.iload_n 1, 1) := by decide +kernel
theorem dX9_keeps_12 : decode cX9_keeps 12 = .ok (.sipush 161, 3) := by decide +kernel
theorem dX9_keeps_15 : decode cX9_keeps 15 = .ok (.if_icmp .ge 24, 3) := by decide +kernel
theorem dX9_keeps_18 : decode cX9_keeps 18 = .ok (.aload_n 0, 1) := by decide +kernel
theorem dX9_keeps_19 : decode cX9_keeps 19 = .ok (.getfield 25, 3) := by decide +kernel
theorem dX9_keeps_22 : decode cX9_keeps 22 = .ok (.iload_n 1, 1) := by decide +kernel
theorem dX9_keeps_23 : decode cX9_keeps 23 = .ok (.aload_n 0, 1) := by decide +kernel
theorem dX9_keeps_24 : decode cX9_keeps 24 = .ok (.getfield 25, 3) := by decide +kernel
theorem dX9_keeps_27 : decode cX9_keeps 27 = .ok (.iload_n 1, 1) := by decide +kernel
theorem dX9_keeps_28 : decode cX9_keeps 28 = .ok (.bipush 23, 2) := by decide +kernel
theorem dX9_keeps_30 : decode cX9_keeps 30 = .ok (.iadd, 1) := by decide +kernel
theorem dX9_keeps_31 : decode cX9_keeps 31 = .ok (.iaload, 1) := by decide +kernel
theorem dX9_keeps_32 : decode cX9_keeps 32 = .ok (.iastore, 1) := by decide +kernel
theorem dX9_keeps_33 : decode cX9_keeps 33 = .ok (.iinc 1 1, 3) := by decide +kernel
theorem dX9_keeps_36 : decode cX9_keeps 36 = .ok (.goto (-25), 3) := by decide +kernel
theorem dX9_keeps_39 : decode cX9_keeps 39 = .ok (.aload_n 0, 1) := by decide +kernel
theorem dX9_keeps_40 : decode cX9_keeps 40 = .ok (.dup, 1) := by decide +kernel
theorem dX9_keeps_41 : decode cX9_keeps 41 = .ok (.getfield 88, 3) := by decide +kernel
theorem dX9_keeps_44 : decode cX9_keeps 44 = .ok (.iconst 1, 1) := by decide +kernel
theorem dX9_keeps_45 : decode cX9_keeps 45 = .ok (.isub, 1) := by decide +kernel
theorem dX9_keeps_46 : decode cX9_keeps 46 = .ok (.putfield 88, 3) := by decide +kernel
theorem dX9_keeps_49 : decode cX9_keeps 49 = .ok (.iconst 0, 1) := by decide +kernel
theorem dX9_keeps_50 : decode cX9_keeps 50 = .ok (.istore_n 1, 1) := by decide +kernel
theorem dX9_keeps_51 : decode cX9_keeps 51 = .ok (.iload_n 1, 1) := by decide +kernel
theorem dX9_keeps_52 : decode cX9_keeps 52 = .ok (.bipush 23, 2) := by decide +kernel
theorem dX9_keeps_54 : decode cX9_keeps 54 = .ok (.if_icmp .ge 29, 3) := by decide +kernel
theorem dX9_keeps_57 : decode cX9_keeps 57 = .ok (.aload_n 0, 1) := by decide +kernel
theorem dX9_keeps_58 : decode cX9_keeps 58 = .ok (.getfield 25, 3) := by decide +kernel
theorem dX9_keeps_61 : decode cX9_keeps 61 = .ok (.bipush 23, 2) := by decide +kernel
theorem dX9_keeps_63 : decode cX9_keeps 63 = .ok (.aload_n 0, 1) := by decide +kernel
theorem dX9_keeps_64 : decode cX9_keeps 64 = .ok (.getfield 88, 3) := by decide +kernel
theorem dX9_keeps_67 : decode cX9_keeps 67 = .ok (.imul, 1) := by decide +kernel
theorem dX9_keeps_68 : decode cX9_keeps 68 = .ok (.iload_n 1, 1) := by decide +kernel
theorem dX9_keeps_69 : decode cX9_keeps 69 = .ok (.iadd, 1) := by decide +kernel
theorem dX9_keeps_70 : decode cX9_keeps 70 = .ok (.aload_n 0, 1) := by decide +kernel
theorem dX9_keeps_71 : decode cX9_keeps 71 = .ok (.getfield 22, 3) := by decide +kernel
theorem dX9_keeps_74 : decode cX9_keeps 74 = .ok (.iload_n 1, 1) := by decide +kernel
theorem dX9_keeps_75 : decode cX9_keeps 75 = .ok (.iaload, 1) := by decide +kernel
theorem dX9_keeps_76 : decode cX9_keeps 76 = .ok (.iastore, 1) := by decide +kernel
theorem dX9_keeps_77 : decode cX9_keeps 77 = .ok (.iinc 1 1, 3) := by decide +kernel
theorem dX9_keeps_80 : decode cX9_keeps 80 = .ok (.goto (-29), 3) := by decide +kernel
theorem dX9_keeps_83 : decode cX9_keeps 83 = .ok (.aload_n 0, 1) := by decide +kernel
theorem dX9_keeps_84 : decode cX9_keeps 84 = .ok (.dup, 1) := by decide +kernel
theorem dX9_keeps_85 : decode cX9_keeps 85 = .ok (.getfield 88, 3) := by decide +kernel
theorem dX9_keeps_88 : decode cX9_keeps 88 = .ok (.iconst 1, 1) := by decide +kernel
theorem dX9_keeps_89 : decode cX9_keeps 89 = .ok (.iadd, 1) := by decide +kernel
theorem dX9_keeps_90 : decode cX9_keeps 90 = .ok (.putfield 88, 3) := by decide +kernel
theorem dX9_keeps_93 : decode cX9_keeps 93 = .ok (.return_, 1) := by decide +kernel
theorem dX9_isAlone_0 : decode cX9_isAlone 0 = .ok (.iconst 1, 1) := by decide +kernel
theorem dX9_isAlone_1 : decode cX9_isAlone 1 = .ok (.istore_n 2, 1) := by decide +kernel
theorem dX9_isAlone_2 : decode cX9_isAlone 2 = .ok (.iconst 0, 1) := by decide +kernel
theorem dX9_isAlone_3 : decode cX9_isAlone 3 = .ok (.istore_n 3, 1) := by decide +kernel
theorem dX9_isAlone_4 : decode cX9_isAlone 4 = .ok (.iload_n 3, 1) := by decide +kernel
theorem dX9_isAlone_5 : decode cX9_isAlone 5 = .ok (.aload_n 0, 1) := by decide +kernel
theorem dX9_isAlone_6 : decode cX9_isAlone 6 = .ok (.getfield 13, 3) := by decide +kernel
theorem dX9_isAlone_9 : decode cX9_isAlone 9 = .ok (.iconst 1, 1) := by decide +kernel
theorem dX9_isAlone_10 : decode cX9_isAlone 10 = .ok (.iaload, 1) := by decide +kernel
theorem dX9_isAlone_11 : decode cX9_isAlone 11 = .ok (.if_icmp .ge 64, 3) := by decide +kernel
theorem dX9_isAlone_14 : decode cX9_isAlone 14 = .ok (.iload_n 2, 1) := by decide +kernel
theorem dX9_isAlone_15 : decode cX9_isAlone 15 = .ok (.ifCond .eq 52, 3) := by decide +kernel
theorem dX9_isAlone_18 : decode cX9_isAlone 18 = .ok (.iload_n 3, 1) := by decide +kernel
theorem dX9_isAlone_19 : decode cX9_isAlone 19 = .ok (.iload_n 1, 1) := by decide +kernel
theorem dX9_isAlone_20 : decode cX9_isAlone 20 = .ok (.if_icmp .eq 43, 3) := by decide +kernel
theorem dX9_isAlone_23 : decode cX9_isAlone 23 = .ok (.aload_n 0, 1) := by decide +kernel
theorem dX9_isAlone_24 : decode cX9_isAlone 24 = .ok (.getfield 22, 3) := by decide +kernel
theorem dX9_isAlone_27 : decode cX9_isAlone 27 = .ok (.iconst 1, 1) := by decide +kernel
theorem dX9_isAlone_28 : decode cX9_isAlone 28 = .ok (.iaload, 1) := by decide +kernel
theorem dX9_isAlone_29 : decode cX9_isAlone 29 = .ok (.iload_n 3, 1) := by decide +kernel
theorem dX9_isAlone_30 : decode cX9_isAlone 30 = .ok (.invokestatic 94, 3) := by decide +kernel
theorem dX9_isAlone_33 : decode cX9_isAlone 33 = .ok (.ifCond .eq 30, 3) := by decide +kernel
theorem dX9_isAlone_36 : decode cX9_isAlone 36 = .ok (.aload_n 0, 1) := by decide +kernel
theorem dX9_isAlone_37 : decode cX9_isAlone 37 = .ok (.getfield 22, 3) := by decide +kernel
theorem dX9_isAlone_40 : decode cX9_isAlone 40 = .ok (.bipush 9, 2) := by decide +kernel
theorem dX9_isAlone_42 : decode cX9_isAlone 42 = .ok (.iload_n 3, 1) := by decide +kernel
theorem dX9_isAlone_43 : decode cX9_isAlone 43 = .ok (.iadd, 1) := by decide +kernel
theorem dX9_isAlone_44 : decode cX9_isAlone 44 = .ok (.iaload, 1) := by decide +kernel
theorem dX9_isAlone_45 : decode cX9_isAlone 45 = .ok (.aload_n 0, 1) := by decide +kernel
theorem dX9_isAlone_46 : decode cX9_isAlone 46 = .ok (.getfield 22, 3) := by decide +kernel
theorem dX9_isAlone_49 : decode cX9_isAlone 49 = .ok (.bipush 9, 2) := by decide +kernel
theorem dX9_isAlone_51 : decode cX9_isAlone 51 = .ok (.iload_n 1, 1) := by decide +kernel
theorem dX9_isAlone_52 : decode cX9_isAlone 52 = .ok (.iadd, 1) := by decide +kernel
theorem dX9_isAlone_53 : decode cX9_isAlone 53 = .ok (.iaload, 1) := by decide +kernel
theorem dX9_isAlone_54 : decode cX9_isAlone 54 = .ok (.isub, 1) := by decide +kernel
theorem dX9_isAlone_55 : decode cX9_isAlone 55 = .ok (.iconst (-1), 1) := by decide +kernel
theorem dX9_isAlone_56 : decode cX9_isAlone 56 = .ok (.iconst 1, 1) := by decide +kernel
theorem dX9_isAlone_57 : decode cX9_isAlone 57 = .ok (.invokestatic 52, 3) := by decide +kernel
theorem dX9_isAlone_60 : decode cX9_isAlone 60 = .ok (.ifCond .ne 7, 3) := by decide +kernel
theorem dX9_isAlone_63 : decode cX9_isAlone 63 = .ok (.iconst 1, 1) := by decide +kernel
theorem dX9_isAlone_64 : decode cX9_isAlone 64 = .ok (.goto 4, 3) := by decide +kernel
theorem dX9_isAlone_67 : decode cX9_isAlone 67 = .ok (.iconst 0, 1) := by decide +kernel
theorem dX9_isAlone_68 : decode cX9_isAlone 68 = .ok (.istore_n 2, 1) := by decide +kernel
theorem dX9_isAlone_69 : decode cX9_isAlone 69 = .ok (.iinc 3 1, 3) := by decide +kernel
theorem dX9_isAlone_72 : decode cX9_isAlone 72 = .ok (.goto (-68), 3) := by decide +kernel
theorem dX9_isAlone_75 : decode cX9_isAlone 75 = .ok (.iload_n 2, 1) := by decide +kernel
theorem dX9_isAlone_76 : decode cX9_isAlone 76 = .ok (.ireturn, 1) := by decide +kernel
theorem dX9_passes_0 : decode cX9_passes 0 = .ok (.aload_n 0, 1) := by decide +kernel
theorem dX9_passes_1 : decode cX9_passes 1 = .ok (.invokevirtual 125, 3) := by decide +kernel
theorem dX9_passes_4 : decode cX9_passes 4 = .ok (.istore_n 1, 1) := by decide +kernel
theorem dX9_passes_5 : decode cX9_passes 5 = .ok (.iconst 0, 1) := by decide +kernel
theorem dX9_passes_6 : decode cX9_passes 6 = .ok (.istore_n 2, 1) := by decide +kernel
theorem dX9_passes_7 : decode cX9_passes 7 = .ok (.iconst 0, 1) := by decide +kernel
theorem dX9_passes_8 : decode cX9_passes 8 = .ok (.istore_n 3, 1) := by decide +kernel
theorem dX9_passes_9 : decode cX9_passes 9 = .ok (.iload_n 3, 1) := by decide +kernel
theorem dX9_passes_10 : decode cX9_passes 10 = .ok (.aload_n 0, 1) := by decide +kernel
theorem dX9_passes_11 : decode cX9_passes 11 = .ok (.getfield 13, 3) := by decide +kernel
theorem dX9_passes_14 : decode cX9_passes 14 = .ok (.iconst 1, 1) := by decide +kernel
theorem dX9_passes_15 : decode cX9_passes 15 = .ok (.iaload, 1) := by decide +kernel
theorem dX9_passes_16 : decode cX9_passes 16 = .ok (.if_icmp .ge 50, 3) := by decide +kernel
theorem dX9_passes_19 : decode cX9_passes 19 = .ok (.aload_n 0, 1) := by decide +kernel
theorem dX9_passes_20 : decode cX9_passes 20 = .ok (.getfield 13, 3) := by decide +kernel
theorem dX9_passes_23 : decode cX9_passes 23 = .ok (.bipush 20, 2) := by decide +kernel
theorem dX9_passes_25 : decode cX9_passes 25 = .ok (.iload_n 3, 1) := by decide +kernel
theorem dX9_passes_26 : decode cX9_passes 26 = .ok (.iadd, 1) := by decide +kernel
theorem dX9_passes_27 : decode cX9_passes 27 = .ok (.iaload, 1) := by decide +kernel
theorem dX9_passes_28 : decode cX9_passes 28 = .ok (.istore 4, 2) := by decide +kernel
theorem dX9_passes_30 : decode cX9_passes 30 = .ok (.iload_n 2, 1) := by decide +kernel
theorem dX9_passes_31 : decode cX9_passes 31 = .ok (.iload 4, 2) := by decide +kernel
theorem dX9_passes_33 : decode cX9_passes 33 = .ok (.iconst 2, 1) := by decide +kernel
theorem dX9_passes_34 : decode cX9_passes 34 = .ok (.if_icmp .eq 17, 3) := by decide +kernel
theorem dX9_passes_37 : decode cX9_passes 37 = .ok (.iload 4, 2) := by decide +kernel
theorem dX9_passes_39 : decode cX9_passes 39 = .ok (.iconst 1, 1) := by decide +kernel
theorem dX9_passes_40 : decode cX9_passes 40 = .ok (.if_icmp .ne 17, 3) := by decide +kernel
theorem dX9_passes_43 : decode cX9_passes 43 = .ok (.aload_n 0, 1) := by decide +kernel
theorem dX9_passes_44 : decode cX9_passes 44 = .ok (.iload_n 3, 1) := by decide +kernel
theorem dX9_passes_45 : decode cX9_passes 45 = .ok (.invokevirtual 128, 3) := by decide +kernel
theorem dX9_passes_48 : decode cX9_passes 48 = .ok (.ifCond .eq 9, 3) := by decide +kernel
theorem dX9_passes_51 : decode cX9_passes 51 = .ok (.iconst 1, 1) := by decide +kernel
theorem dX9_passes_52 : decode cX9_passes 52 = .ok (.iload_n 3, 1) := by decide +kernel
theorem dX9_passes_53 : decode cX9_passes 53 = .ok (.ishl, 1) := by decide +kernel
theorem dX9_passes_54 : decode cX9_passes 54 = .ok (.goto 4, 3) := by decide +kernel
theorem dX9_passes_57 : decode cX9_passes 57 = .ok (.iconst 0, 1) := by decide +kernel
theorem dX9_passes_58 : decode cX9_passes 58 = .ok (.ior, 1) := by decide +kernel
theorem dX9_passes_59 : decode cX9_passes 59 = .ok (.istore_n 2, 1) := by decide +kernel
theorem dX9_passes_60 : decode cX9_passes 60 = .ok (.iinc 3 1, 3) := by decide +kernel
theorem dX9_passes_63 : decode cX9_passes 63 = .ok (.goto (-54), 3) := by decide +kernel
theorem dX9_passes_66 : decode cX9_passes 66 = .ok (.iconst 0, 1) := by decide +kernel
theorem dX9_passes_67 : decode cX9_passes 67 = .ok (.istore_n 3, 1) := by decide +kernel
theorem dX9_passes_68 : decode cX9_passes 68 = .ok (.iload_n 3, 1) := by decide +kernel
theorem dX9_passes_69 : decode cX9_passes 69 = .ok (.aload_n 0, 1) := by decide +kernel
theorem dX9_passes_70 : decode cX9_passes 70 = .ok (.getfield 13, 3) := by decide +kernel
theorem dX9_passes_73 : decode cX9_passes 73 = .ok (.iconst 1, 1) := by decide +kernel
theorem dX9_passes_74 : decode cX9_passes 74 = .ok (.iaload, 1) := by decide +kernel
theorem dX9_passes_75 : decode cX9_passes 75 = .ok (.if_icmp .ge 111, 3) := by decide +kernel
theorem dX9_passes_78 : decode cX9_passes 78 = .ok (.aload_n 0, 1) := by decide +kernel
theorem dX9_passes_79 : decode cX9_passes 79 = .ok (.getfield 22, 3) := by decide +kernel
theorem dX9_passes_82 : decode cX9_passes 82 = .ok (.iconst 3, 1) := by decide +kernel
theorem dX9_passes_83 : decode cX9_passes 83 = .ok (.iload_n 3, 1) := by decide +kernel
theorem dX9_passes_84 : decode cX9_passes 84 = .ok (.iadd, 1) := by decide +kernel
theorem dX9_passes_85 : decode cX9_passes 85 = .ok (.iaload, 1) := by decide +kernel
theorem dX9_passes_86 : decode cX9_passes 86 = .ok (.aload_n 0, 1) := by decide +kernel
theorem dX9_passes_87 : decode cX9_passes 87 = .ok (.getfield 13, 3) := by decide +kernel
theorem dX9_passes_90 : decode cX9_passes 90 = .ok (.bipush 20, 2) := by decide +kernel
theorem dX9_passes_92 : decode cX9_passes 92 = .ok (.iload_n 3, 1) := by decide +kernel
theorem dX9_passes_93 : decode cX9_passes 93 = .ok (.iadd, 1) := by decide +kernel
theorem dX9_passes_94 : decode cX9_passes 94 = .ok (.iaload, 1) := by decide +kernel
theorem dX9_passes_95 : decode cX9_passes 95 = .ok (.iconst 2, 1) := by decide +kernel
theorem dX9_passes_96 : decode cX9_passes 96 = .ok (.if_icmp .ne 7, 3) := by decide +kernel
theorem dX9_passes_99 : decode cX9_passes 99 = .ok (.iconst 1, 1) := by decide +kernel
theorem dX9_passes_100 : decode cX9_passes 100 = .ok (.goto 4, 3) := by decide +kernel
theorem dX9_passes_103 : decode cX9_passes 103 = .ok (.iconst 2, 1) := by decide +kernel
theorem dX9_passes_104 : decode cX9_passes 104 = .ok (.isub, 1) := by decide +kernel
theorem dX9_passes_105 : decode cX9_passes 105 = .ok (.istore 4, 2) := by decide +kernel
theorem dX9_passes_107 : decode cX9_passes 107 = .ok (.aload_n 0, 1) := by decide +kernel
theorem dX9_passes_108 : decode cX9_passes 108 = .ok (.getfield 22, 3) := by decide +kernel
theorem dX9_passes_111 : decode cX9_passes 111 = .ok (.iconst 3, 1) := by decide +kernel
theorem dX9_passes_112 : decode cX9_passes 112 = .ok (.iload_n 3, 1) := by decide +kernel
theorem dX9_passes_113 : decode cX9_passes 113 = .ok (.iadd, 1) := by decide +kernel
theorem dX9_passes_114 : decode cX9_passes 114 = .ok (.iaload, 1) := by decide +kernel
theorem dX9_passes_115 : decode cX9_passes 115 = .ok (.iload_n 2, 1) := by decide +kernel
theorem dX9_passes_116 : decode cX9_passes 116 = .ok (.iload_n 3, 1) := by decide +kernel
theorem dX9_passes_117 : decode cX9_passes 117 = .ok (.invokestatic 94, 3) := by decide +kernel
theorem dX9_passes_120 : decode cX9_passes 120 = .ok (.ifCond .eq 7, 3) := by decide +kernel
theorem dX9_passes_123 : decode cX9_passes 123 = .ok (.iconst 2, 1) := by decide +kernel
theorem dX9_passes_124 : decode cX9_passes 124 = .ok (.goto 4, 3) := by decide +kernel
theorem dX9_passes_127 : decode cX9_passes 127 = .ok (.iconst 1, 1) := by decide +kernel
theorem dX9_passes_128 : decode cX9_passes 128 = .ok (.iadd, 1) := by decide +kernel
theorem dX9_passes_129 : decode cX9_passes 129 = .ok (.istore 5, 2) := by decide +kernel
theorem dX9_passes_131 : decode cX9_passes 131 = .ok (.aload_n 0, 1) := by decide +kernel
theorem dX9_passes_132 : decode cX9_passes 132 = .ok (.getfield 22, 3) := by decide +kernel
theorem dX9_passes_135 : decode cX9_passes 135 = .ok (.iconst 3, 1) := by decide +kernel
theorem dX9_passes_136 : decode cX9_passes 136 = .ok (.iload_n 3, 1) := by decide +kernel
theorem dX9_passes_137 : decode cX9_passes 137 = .ok (.iadd, 1) := by decide +kernel
theorem dX9_passes_138 : decode cX9_passes 138 = .ok (.aload_n 0, 1) := by decide +kernel
theorem dX9_passes_139 : decode cX9_passes 139 = .ok (.getfield 22, 3) := by decide +kernel
theorem dX9_passes_142 : decode cX9_passes 142 = .ok (.iconst 1, 1) := by decide +kernel
theorem dX9_passes_143 : decode cX9_passes 143 = .ok (.iaload, 1) := by decide +kernel
theorem dX9_passes_144 : decode cX9_passes 144 = .ok (.iload_n 3, 1) := by decide +kernel
theorem dX9_passes_145 : decode cX9_passes 145 = .ok (.invokestatic 94, 3) := by decide +kernel
theorem dX9_passes_148 : decode cX9_passes 148 = .ok (.ifCond .eq 20, 3) := by decide +kernel
theorem dX9_passes_151 : decode cX9_passes 151 = .ok (.iload 5, 2) := by decide +kernel
theorem dX9_passes_153 : decode cX9_passes 153 = .ok (.bipush 99, 2) := by decide +kernel
theorem dX9_passes_155 : decode cX9_passes 155 = .ok (.if_icmp .le 8, 3) := by decide +kernel
theorem dX9_passes_158 : decode cX9_passes 158 = .ok (.bipush 99, 2) := by decide +kernel
theorem dX9_passes_160 : decode cX9_passes 160 = .ok (.goto 19, 3) := by decide +kernel
theorem dX9_passes_163 : decode cX9_passes 163 = .ok (.iload 5, 2) := by decide +kernel
theorem dX9_passes_165 : decode cX9_passes 165 = .ok (.goto 14, 3) := by decide +kernel
theorem dX9_passes_168 : decode cX9_passes 168 = .ok (.iload 4, 2) := by decide +kernel
theorem dX9_passes_170 : decode cX9_passes 170 = .ok (.ifCond .ge 7, 3) := by decide +kernel
theorem dX9_passes_173 : decode cX9_passes 173 = .ok (.iconst 0, 1) := by decide +kernel
theorem dX9_passes_174 : decode cX9_passes 174 = .ok (.goto 5, 3) := by decide +kernel
theorem dX9_passes_177 : decode cX9_passes 177 = .ok (.iload 4, 2) := by decide +kernel
theorem dX9_passes_179 : decode cX9_passes 179 = .ok (.iastore, 1) := by decide +kernel
theorem dX9_passes_180 : decode cX9_passes 180 = .ok (.iinc 3 1, 3) := by decide +kernel
theorem dX9_passes_183 : decode cX9_passes 183 = .ok (.goto (-115), 3) := by decide +kernel
theorem dX9_passes_186 : decode cX9_passes 186 = .ok (.iconst 0, 1) := by decide +kernel
theorem dX9_passes_187 : decode cX9_passes 187 = .ok (.istore_n 3, 1) := by decide +kernel
theorem dX9_passes_188 : decode cX9_passes 188 = .ok (.iconst 0, 1) := by decide +kernel
theorem dX9_passes_189 : decode cX9_passes 189 = .ok (.istore 4, 2) := by decide +kernel
theorem dX9_passes_191 : decode cX9_passes 191 = .ok (.iload 4, 2) := by decide +kernel
theorem dX9_passes_193 : decode cX9_passes 193 = .ok (.aload_n 0, 1) := by decide +kernel
theorem dX9_passes_194 : decode cX9_passes 194 = .ok (.getfield 13, 3) := by decide +kernel
theorem dX9_passes_197 : decode cX9_passes 197 = .ok (.iconst 0, 1) := by decide +kernel
theorem dX9_passes_198 : decode cX9_passes 198 = .ok (.iaload, 1) := by decide +kernel
theorem dX9_passes_199 : decode cX9_passes 199 = .ok (.if_icmp .ge 87, 3) := by decide +kernel
theorem dX9_passes_202 : decode cX9_passes 202 = .ok (.aload_n 0, 1) := by decide +kernel
theorem dX9_passes_203 : decode cX9_passes 203 = .ok (.iload 4, 2) := by decide +kernel
theorem dX9_passes_205 : decode cX9_passes 205 = .ok (.invokevirtual 98, 3) := by decide +kernel
theorem dX9_passes_208 : decode cX9_passes 208 = .ok (.ifCond .ne 72, 3) := by decide +kernel
theorem dX9_passes_211 : decode cX9_passes 211 = .ok (.aload_n 0, 1) := by decide +kernel
theorem dX9_passes_212 : decode cX9_passes 212 = .ok (.getfield 22, 3) := by decide +kernel
theorem dX9_passes_215 : decode cX9_passes 215 = .ok (.bipush 15, 2) := by decide +kernel
theorem dX9_passes_217 : decode cX9_passes 217 = .ok (.iload 4, 2) := by decide +kernel
theorem dX9_passes_219 : decode cX9_passes 219 = .ok (.iadd, 1) := by decide +kernel
theorem dX9_passes_220 : decode cX9_passes 220 = .ok (.iload_n 1, 1) := by decide +kernel
theorem dX9_passes_221 : decode cX9_passes 221 = .ok (.iload 4, 2) := by decide +kernel
theorem dX9_passes_223 : decode cX9_passes 223 = .ok (.invokestatic 94, 3) := by decide +kernel
theorem dX9_passes_226 : decode cX9_passes 226 = .ok (.ifCond .eq 7, 3) := by decide +kernel
theorem dX9_passes_229 : decode cX9_passes 229 = .ok (.iconst 0, 1) := by decide +kernel
theorem dX9_passes_230 : decode cX9_passes 230 = .ok (.goto 15, 3) := by decide +kernel
theorem dX9_passes_233 : decode cX9_passes 233 = .ok (.aload_n 0, 1) := by decide +kernel
theorem dX9_passes_234 : decode cX9_passes 234 = .ok (.getfield 22, 3) := by decide +kernel
theorem dX9_passes_237 : decode cX9_passes 237 = .ok (.bipush 15, 2) := by decide +kernel
theorem dX9_passes_239 : decode cX9_passes 239 = .ok (.iload 4, 2) := by decide +kernel
theorem dX9_passes_241 : decode cX9_passes 241 = .ok (.iadd, 1) := by decide +kernel
theorem dX9_passes_242 : decode cX9_passes 242 = .ok (.iaload, 1) := by decide +kernel
theorem dX9_passes_243 : decode cX9_passes 243 = .ok (.iconst 1, 1) := by decide +kernel
theorem dX9_passes_244 : decode cX9_passes 244 = .ok (.iadd, 1) := by decide +kernel
theorem dX9_passes_245 : decode cX9_passes 245 = .ok (.iastore, 1) := by decide +kernel
theorem dX9_passes_246 : decode cX9_passes 246 = .ok (.iload_n 3, 1) := by decide +kernel
theorem dX9_passes_247 : decode cX9_passes 247 = .ok (.aload_n 0, 1) := by decide +kernel
theorem dX9_passes_248 : decode cX9_passes 248 = .ok (.getfield 22, 3) := by decide +kernel
theorem dX9_passes_251 : decode cX9_passes 251 = .ok (.bipush 15, 2) := by decide +kernel
theorem dX9_passes_253 : decode cX9_passes 253 = .ok (.iload 4, 2) := by decide +kernel
theorem dX9_passes_255 : decode cX9_passes 255 = .ok (.iadd, 1) := by decide +kernel
theorem dX9_passes_256 : decode cX9_passes 256 = .ok (.iaload, 1) := by decide +kernel
theorem dX9_passes_257 : decode cX9_passes 257 = .ok (.aload_n 0, 1) := by decide +kernel
theorem dX9_passes_258 : decode cX9_passes 258 = .ok (.getfield 13, 3) := by decide +kernel
theorem dX9_passes_261 : decode cX9_passes 261 = .ok (.bipush 12, 2) := by decide +kernel
theorem dX9_passes_263 : decode cX9_passes 263 = .ok (.iload 4, 2) := by decide +kernel
theorem dX9_passes_265 : decode cX9_passes 265 = .ok (.iadd, 1) := by decide +kernel
theorem dX9_passes_266 : decode cX9_passes 266 = .ok (.iaload, 1) := by decide +kernel
theorem dX9_passes_267 : decode cX9_passes 267 = .ok (.if_icmp .le 10, 3) := by decide +kernel
theorem dX9_passes_270 : decode cX9_passes 270 = .ok (.iconst 1, 1) := by decide +kernel
theorem dX9_passes_271 : decode cX9_passes 271 = .ok (.iload 4, 2) := by decide +kernel
theorem dX9_passes_273 : decode cX9_passes 273 = .ok (.ishl, 1) := by decide +kernel
theorem dX9_passes_274 : decode cX9_passes 274 = .ok (.goto 4, 3) := by decide +kernel
theorem dX9_passes_277 : decode cX9_passes 277 = .ok (.iconst 0, 1) := by decide +kernel
theorem dX9_passes_278 : decode cX9_passes 278 = .ok (.ior, 1) := by decide +kernel
theorem dX9_passes_279 : decode cX9_passes 279 = .ok (.istore_n 3, 1) := by decide +kernel
theorem dX9_passes_280 : decode cX9_passes 280 = .ok (.iinc 4 1, 3) := by decide +kernel
theorem dX9_passes_283 : decode cX9_passes 283 = .ok (.goto (-92), 3) := by decide +kernel
theorem dX9_passes_286 : decode cX9_passes 286 = .ok (.aload_n 0, 1) := by decide +kernel
theorem dX9_passes_287 : decode cX9_passes 287 = .ok (.getfield 22, 3) := by decide +kernel
theorem dX9_passes_290 : decode cX9_passes 290 = .ok (.iconst 2, 1) := by decide +kernel
theorem dX9_passes_291 : decode cX9_passes 291 = .ok (.dup2, 1) := by decide +kernel
theorem dX9_passes_292 : decode cX9_passes 292 = .ok (.iaload, 1) := by decide +kernel
theorem dX9_passes_293 : decode cX9_passes 293 = .ok (.iload_n 3, 1) := by decide +kernel
theorem dX9_passes_294 : decode cX9_passes 294 = .ok (.ior, 1) := by decide +kernel
theorem dX9_passes_295 : decode cX9_passes 295 = .ok (.iastore, 1) := by decide +kernel
theorem dX9_passes_296 : decode cX9_passes 296 = .ok (.iconst 0, 1) := by decide +kernel
theorem dX9_passes_297 : decode cX9_passes 297 = .ok (.istore 4, 2) := by decide +kernel
theorem dX9_passes_299 : decode cX9_passes 299 = .ok (.iload 4, 2) := by decide +kernel
theorem dX9_passes_301 : decode cX9_passes 301 = .ok (.aload_n 0, 1) := by decide +kernel
theorem dX9_passes_302 : decode cX9_passes 302 = .ok (.getfield 13, 3) := by decide +kernel
theorem dX9_passes_305 : decode cX9_passes 305 = .ok (.iconst 1, 1) := by decide +kernel
theorem dX9_passes_306 : decode cX9_passes 306 = .ok (.iaload, 1) := by decide +kernel
theorem dX9_passes_307 : decode cX9_passes 307 = .ok (.if_icmp .ge 106, 3) := by decide +kernel
theorem dX9_passes_310 : decode cX9_passes 310 = .ok (.aload_n 0, 1) := by decide +kernel
theorem dX9_passes_311 : decode cX9_passes 311 = .ok (.getfield 22, 3) := by decide +kernel
theorem dX9_passes_314 : decode cX9_passes 314 = .ok (.iconst 3, 1) := by decide +kernel
theorem dX9_passes_315 : decode cX9_passes 315 = .ok (.iload 4, 2) := by decide +kernel
theorem dX9_passes_317 : decode cX9_passes 317 = .ok (.iadd, 1) := by decide +kernel
theorem dX9_passes_318 : decode cX9_passes 318 = .ok (.iaload, 1) := by decide +kernel
theorem dX9_passes_319 : decode cX9_passes 319 = .ok (.aload_n 0, 1) := by decide +kernel
theorem dX9_passes_320 : decode cX9_passes 320 = .ok (.getfield 13, 3) := by decide +kernel
theorem dX9_passes_323 : decode cX9_passes 323 = .ok (.bipush 32, 2) := by decide +kernel
theorem dX9_passes_325 : decode cX9_passes 325 = .ok (.iload 4, 2) := by decide +kernel
theorem dX9_passes_327 : decode cX9_passes 327 = .ok (.iadd, 1) := by decide +kernel
theorem dX9_passes_328 : decode cX9_passes 328 = .ok (.iaload, 1) := by decide +kernel
theorem dX9_passes_329 : decode cX9_passes 329 = .ok (.if_icmp .le 34, 3) := by decide +kernel
theorem dX9_passes_332 : decode cX9_passes 332 = .ok (.aload_n 0, 1) := by decide +kernel
theorem dX9_passes_333 : decode cX9_passes 333 = .ok (.getfield 13, 3) := by decide +kernel
theorem dX9_passes_336 : decode cX9_passes 336 = .ok (.bipush 20, 2) := by decide +kernel
theorem dX9_passes_338 : decode cX9_passes 338 = .ok (.iload 4, 2) := by decide +kernel
theorem dX9_passes_340 : decode cX9_passes 340 = .ok (.iadd, 1) := by decide +kernel
theorem dX9_passes_341 : decode cX9_passes 341 = .ok (.iaload, 1) := by decide +kernel
theorem dX9_passes_342 : decode cX9_passes 342 = .ok (.iconst 3, 1) := by decide +kernel
theorem dX9_passes_343 : decode cX9_passes 343 = .ok (.if_icmp .ne 16, 3) := by decide +kernel
theorem dX9_passes_346 : decode cX9_passes 346 = .ok (.aload_n 0, 1) := by decide +kernel
theorem dX9_passes_347 : decode cX9_passes 347 = .ok (.aload_n 0, 1) := by decide +kernel
theorem dX9_passes_348 : decode cX9_passes 348 = .ok (.getfield 22, 3) := by decide +kernel
theorem dX9_passes_351 : decode cX9_passes 351 = .ok (.iconst 0, 1) := by decide +kernel
theorem dX9_passes_352 : decode cX9_passes 352 = .ok (.iaload, 1) := by decide +kernel
theorem dX9_passes_353 : decode cX9_passes 353 = .ok (.invokevirtual 122, 3) := by decide +kernel
theorem dX9_passes_356 : decode cX9_passes 356 = .ok (.ifCond .ne 7, 3) := by decide +kernel
theorem dX9_passes_359 : decode cX9_passes 359 = .ok (.iconst 1, 1) := by decide +kernel
theorem dX9_passes_360 : decode cX9_passes 360 = .ok (.goto 4, 3) := by decide +kernel
theorem dX9_passes_363 : decode cX9_passes 363 = .ok (.iconst 0, 1) := by decide +kernel
theorem dX9_passes_364 : decode cX9_passes 364 = .ok (.istore 5, 2) := by decide +kernel
theorem dX9_passes_366 : decode cX9_passes 366 = .ok (.aload_n 0, 1) := by decide +kernel
theorem dX9_passes_367 : decode cX9_passes 367 = .ok (.getfield 22, 3) := by decide +kernel
theorem dX9_passes_370 : decode cX9_passes 370 = .ok (.iconst 1, 1) := by decide +kernel
theorem dX9_passes_371 : decode cX9_passes 371 = .ok (.dup2, 1) := by decide +kernel
theorem dX9_passes_372 : decode cX9_passes 372 = .ok (.iaload, 1) := by decide +kernel
theorem dX9_passes_373 : decode cX9_passes 373 = .ok (.iload 5, 2) := by decide +kernel
theorem dX9_passes_375 : decode cX9_passes 375 = .ok (.ifCond .ne 20, 3) := by decide +kernel
theorem dX9_passes_378 : decode cX9_passes 378 = .ok (.aload_n 0, 1) := by decide +kernel
theorem dX9_passes_379 : decode cX9_passes 379 = .ok (.aload_n 0, 1) := by decide +kernel
theorem dX9_passes_380 : decode cX9_passes 380 = .ok (.getfield 22, 3) := by decide +kernel
theorem dX9_passes_383 : decode cX9_passes 383 = .ok (.bipush 9, 2) := by decide +kernel
theorem dX9_passes_385 : decode cX9_passes 385 = .ok (.iload 4, 2) := by decide +kernel
theorem dX9_passes_387 : decode cX9_passes 387 = .ok (.iadd, 1) := by decide +kernel
theorem dX9_passes_388 : decode cX9_passes 388 = .ok (.iaload, 1) := by decide +kernel
theorem dX9_passes_389 : decode cX9_passes 389 = .ok (.invokevirtual 98, 3) := by decide +kernel
theorem dX9_passes_392 : decode cX9_passes 392 = .ok (.ifCond .eq 12, 3) := by decide +kernel
theorem dX9_passes_395 : decode cX9_passes 395 = .ok (.iconst 1, 1) := by decide +kernel
theorem dX9_passes_396 : decode cX9_passes 396 = .ok (.iload 4, 2) := by decide +kernel
theorem dX9_passes_398 : decode cX9_passes 398 = .ok (.ishl, 1) := by decide +kernel
theorem dX9_passes_399 : decode cX9_passes 399 = .ok (.iconst (-1), 1) := by decide +kernel
theorem dX9_passes_400 : decode cX9_passes 400 = .ok (.ixor, 1) := by decide +kernel
theorem dX9_passes_401 : decode cX9_passes 401 = .ok (.goto 4, 3) := by decide +kernel
theorem dX9_passes_404 : decode cX9_passes 404 = .ok (.iconst (-1), 1) := by decide +kernel
theorem dX9_passes_405 : decode cX9_passes 405 = .ok (.iand, 1) := by decide +kernel
theorem dX9_passes_406 : decode cX9_passes 406 = .ok (.iastore, 1) := by decide +kernel
theorem dX9_passes_407 : decode cX9_passes 407 = .ok (.iinc 4 1, 3) := by decide +kernel
theorem dX9_passes_410 : decode cX9_passes 410 = .ok (.goto (-111), 3) := by decide +kernel
theorem dX9_passes_413 : decode cX9_passes 413 = .ok (.aload_n 0, 1) := by decide +kernel
theorem dX9_passes_414 : decode cX9_passes 414 = .ok (.getfield 22, 3) := by decide +kernel
theorem dX9_passes_417 : decode cX9_passes 417 = .ok (.iconst 0, 1) := by decide +kernel
theorem dX9_passes_418 : decode cX9_passes 418 = .ok (.dup2, 1) := by decide +kernel
theorem dX9_passes_419 : decode cX9_passes 419 = .ok (.iaload, 1) := by decide +kernel
theorem dX9_passes_420 : decode cX9_passes 420 = .ok (.iconst 1, 1) := by decide +kernel
theorem dX9_passes_421 : decode cX9_passes 421 = .ok (.iadd, 1) := by decide +kernel
theorem dX9_passes_422 : decode cX9_passes 422 = .ok (.iastore, 1) := by decide +kernel
theorem dX9_passes_423 : decode cX9_passes 423 = .ok (.return_, 1) := by decide +kernel
theorem dX9_pass_0 : decode cX9_pass 0 = .ok (.iload_n 1, 1) := by decide +kernel
theorem dX9_pass_1 : decode cX9_pass 1 = .ok (.iconst 1, 1) := by decide +kernel
theorem dX9_pass_2 : decode cX9_pass 2 = .ok (.bipush 24, 2) := by decide +kernel
theorem dX9_pass_4 : decode cX9_pass 4 = .ok (.invokestatic 52, 3) := by decide +kernel
theorem dX9_pass_7 : decode cX9_pass 7 = .ok (.ifCond .ne 5, 3) := by decide +kernel
theorem dX9_pass_10 : decode cX9_pass 10 = .ok (.iconst (-1), 1) := by decide +kernel
theorem dX9_pass_11 : decode cX9_pass 11 = .ok (.ireturn, 1) := by decide +kernel
theorem dX9_pass_12 : decode cX9_pass 12 = .ok (.aload_n 0, 1) := by decide +kernel
theorem dX9_pass_13 : decode cX9_pass 13 = .ok (.invokevirtual 131, 3) := by decide +kernel
theorem dX9_pass_16 : decode cX9_pass 16 = .ok (.iconst 0, 1) := by decide +kernel
theorem dX9_pass_17 : decode cX9_pass 17 = .ok (.istore_n 2, 1) := by decide +kernel
theorem dX9_pass_18 : decode cX9_pass 18 = .ok (.iload_n 2, 1) := by decide +kernel
theorem dX9_pass_19 : decode cX9_pass 19 = .ok (.iload_n 1, 1) := by decide +kernel
theorem dX9_pass_20 : decode cX9_pass 20 = .ok (.if_icmp .ge 13, 3) := by decide +kernel
theorem dX9_pass_23 : decode cX9_pass 23 = .ok (.aload_n 0, 1) := by decide +kernel
theorem dX9_pass_24 : decode cX9_pass 24 = .ok (.invokevirtual 134, 3) := by decide +kernel
theorem dX9_pass_27 : decode cX9_pass 27 = .ok (.iinc 2 1, 3) := by decide +kernel
theorem dX9_pass_30 : decode cX9_pass 30 = .ok (.goto (-12), 3) := by decide +kernel
theorem dX9_pass_33 : decode cX9_pass 33 = .ok (.aload_n 0, 1) := by decide +kernel
theorem dX9_pass_34 : decode cX9_pass 34 = .ok (.getfield 22, 3) := by decide +kernel
theorem dX9_pass_37 : decode cX9_pass 37 = .ok (.iconst 0, 1) := by decide +kernel
theorem dX9_pass_38 : decode cX9_pass 38 = .ok (.iaload, 1) := by decide +kernel
theorem dX9_pass_39 : decode cX9_pass 39 = .ok (.ireturn, 1) := by decide +kernel
theorem dX9_isBarred_0 : decode cX9_isBarred 0 = .ok (.aload_n 0, 1) := by decide +kernel
theorem dX9_isBarred_1 : decode cX9_isBarred 1 = .ok (.getfield 13, 3) := by decide +kernel
theorem dX9_isBarred_4 : decode cX9_isBarred 4 = .ok (.bipush 20, 2) := by decide +kernel
theorem dX9_isBarred_6 : decode cX9_isBarred 6 = .ok (.iload_n 1, 1) := by decide +kernel
theorem dX9_isBarred_7 : decode cX9_isBarred 7 = .ok (.iadd, 1) := by decide +kernel
theorem dX9_isBarred_8 : decode cX9_isBarred 8 = .ok (.iaload, 1) := by decide +kernel
theorem dX9_isBarred_9 : decode cX9_isBarred 9 = .ok (.iconst 3, 1) := by decide +kernel
theorem dX9_isBarred_10 : decode cX9_isBarred 10 = .ok (.if_icmp .ne 20, 3) := by decide +kernel
theorem dX9_isBarred_13 : decode cX9_isBarred 13 = .ok (.aload_n 0, 1) := by decide +kernel
theorem dX9_isBarred_14 : decode cX9_isBarred 14 = .ok (.aload_n 0, 1) := by decide +kernel
theorem dX9_isBarred_15 : decode cX9_isBarred 15 = .ok (.getfield 22, 3) := by decide +kernel
theorem dX9_isBarred_18 : decode cX9_isBarred 18 = .ok (.iconst 0, 1) := by decide +kernel
theorem dX9_isBarred_19 : decode cX9_isBarred 19 = .ok (.iaload, 1) := by decide +kernel
theorem dX9_isBarred_20 : decode cX9_isBarred 20 = .ok (.invokevirtual 122, 3) := by decide +kernel
theorem dX9_isBarred_23 : decode cX9_isBarred 23 = .ok (.ifCond .eq 7, 3) := by decide +kernel
theorem dX9_isBarred_26 : decode cX9_isBarred 26 = .ok (.iconst 1, 1) := by decide +kernel
theorem dX9_isBarred_27 : decode cX9_isBarred 27 = .ok (.goto 4, 3) := by decide +kernel
theorem dX9_isBarred_30 : decode cX9_isBarred 30 = .ok (.iconst 0, 1) := by decide +kernel
theorem dX9_isBarred_31 : decode cX9_isBarred 31 = .ok (.ireturn, 1) := by decide +kernel
theorem dX9_mayDown_0 : decode cX9_mayDown 0 = .ok (.aload_n 0, 1) := by decide +kernel
theorem dX9_mayDown_1 : decode cX9_mayDown 1 = .ok (.getfield 22, 3) := by decide +kernel
theorem dX9_mayDown_4 : decode cX9_mayDown 4 = .ok (.iconst 1, 1) := by decide +kernel
theorem dX9_mayDown_5 : decode cX9_mayDown 5 = .ok (.iaload, 1) := by decide +kernel
theorem dX9_mayDown_6 : decode cX9_mayDown 6 = .ok (.iload_n 1, 1) := by decide +kernel
theorem dX9_mayDown_7 : decode cX9_mayDown 7 = .ok (.invokestatic 94, 3) := by decide +kernel
theorem dX9_mayDown_10 : decode cX9_mayDown 10 = .ok (.ifCond .eq 15, 3) := by decide +kernel
theorem dX9_mayDown_13 : decode cX9_mayDown 13 = .ok (.aload_n 0, 1) := by decide +kernel
theorem dX9_mayDown_14 : decode cX9_mayDown 14 = .ok (.iload_n 1, 1) := by decide +kernel
theorem dX9_mayDown_15 : decode cX9_mayDown 15 = .ok (.invokevirtual 137, 3) := by decide +kernel
theorem dX9_mayDown_18 : decode cX9_mayDown 18 = .ok (.ifCond .ne 7, 3) := by decide +kernel
theorem dX9_mayDown_21 : decode cX9_mayDown 21 = .ok (.iconst 1, 1) := by decide +kernel
theorem dX9_mayDown_22 : decode cX9_mayDown 22 = .ok (.goto 4, 3) := by decide +kernel
theorem dX9_mayDown_25 : decode cX9_mayDown 25 = .ok (.iconst 0, 1) := by decide +kernel
theorem dX9_mayDown_26 : decode cX9_mayDown 26 = .ok (.ireturn, 1) := by decide +kernel
theorem dX9_mayUp_0 : decode cX9_mayUp 0 = .ok (.aload_n 0, 1) := by decide +kernel
theorem dX9_mayUp_1 : decode cX9_mayUp 1 = .ok (.getfield 22, 3) := by decide +kernel
theorem dX9_mayUp_4 : decode cX9_mayUp 4 = .ok (.iconst 1, 1) := by decide +kernel
theorem dX9_mayUp_5 : decode cX9_mayUp 5 = .ok (.iaload, 1) := by decide +kernel
theorem dX9_mayUp_6 : decode cX9_mayUp 6 = .ok (.iload_n 1, 1) := by decide +kernel
theorem dX9_mayUp_7 : decode cX9_mayUp 7 = .ok (.invokestatic 94, 3) := by decide +kernel
theorem dX9_mayUp_10 : decode cX9_mayUp 10 = .ok (.ifCond .ne 51, 3) := by decide +kernel
theorem dX9_mayUp_13 : decode cX9_mayUp 13 = .ok (.aload_n 0, 1) := by decide +kernel
theorem dX9_mayUp_14 : decode cX9_mayUp 14 = .ok (.iload_n 1, 1) := by decide +kernel
theorem dX9_mayUp_15 : decode cX9_mayUp 15 = .ok (.invokevirtual 137, 3) := by decide +kernel
theorem dX9_mayUp_18 : decode cX9_mayUp 18 = .ok (.ifCond .ne 43, 3) := by decide +kernel
theorem dX9_mayUp_21 : decode cX9_mayUp 21 = .ok (.aload_n 0, 1) := by decide +kernel
theorem dX9_mayUp_22 : decode cX9_mayUp 22 = .ok (.getfield 22, 3) := by decide +kernel
theorem dX9_mayUp_25 : decode cX9_mayUp 25 = .ok (.iconst 3, 1) := by decide +kernel
theorem dX9_mayUp_26 : decode cX9_mayUp 26 = .ok (.iload_n 1, 1) := by decide +kernel
theorem dX9_mayUp_27 : decode cX9_mayUp 27 = .ok (.iadd, 1) := by decide +kernel
theorem dX9_mayUp_28 : decode cX9_mayUp 28 = .ok (.iaload, 1) := by decide +kernel
theorem dX9_mayUp_29 : decode cX9_mayUp 29 = .ok (.aload_n 0, 1) := by decide +kernel
theorem dX9_mayUp_30 : decode cX9_mayUp 30 = .ok (.getfield 13, 3) := by decide +kernel
theorem dX9_mayUp_33 : decode cX9_mayUp 33 = .ok (.bipush 32, 2) := by decide +kernel
theorem dX9_mayUp_35 : decode cX9_mayUp 35 = .ok (.iload_n 1, 1) := by decide +kernel
end
section
theorem dX9_mayUp_36 : decode cX9_mayUp 36 = .ok (.iadd, 1) := by decide +kernel
theorem dX9_mayUp_37 : decode cX9_mayUp 37 = .ok (.iaload, 1) := by decide +kernel
theorem dX9_mayUp_38 : decode cX9_mayUp 38 = .ok (.if_icmp .ge 23, 3) := by decide +kernel
theorem dX9_mayUp_41 : decode cX9_mayUp 41 = .ok (.aload_n 0, 1) := by decide +kernel
theorem dX9_mayUp_42 : decode cX9_mayUp 42 = .ok (.aload_n 0, 1) := by decide +kernel
theorem dX9_mayUp_43 : decode cX9_mayUp 43 = .ok (.getfield 22, 3) := by decide +kernel
theorem dX9_mayUp_46 : decode cX9_mayUp 46 = .ok (.bipush 9, 2) := by decide +kernel
theorem dX9_mayUp_48 : decode cX9_mayUp 48 = .ok (.iload_n 1, 1) := by decide +kernel
theorem dX9_mayUp_49 : decode cX9_mayUp 49 = .ok (.iadd, 1) := by decide +kernel
theorem dX9_mayUp_50 : decode cX9_mayUp 50 = .ok (.iaload, 1) := by decide +kernel
theorem dX9_mayUp_51 : decode cX9_mayUp 51 = .ok (.invokevirtual 98, 3) := by decide +kernel
theorem dX9_mayUp_54 : decode cX9_mayUp 54 = .ok (.ifCond .ne 7, 3) := by decide +kernel
theorem dX9_mayUp_57 : decode cX9_mayUp 57 = .ok (.iconst 1, 1) := by decide +kernel
theorem dX9_mayUp_58 : decode cX9_mayUp 58 = .ok (.goto 4, 3) := by decide +kernel
theorem dX9_mayUp_61 : decode cX9_mayUp 61 = .ok (.iconst 0, 1) := by decide +kernel
theorem dX9_mayUp_62 : decode cX9_mayUp 62 = .ok (.ireturn, 1) := by decide +kernel
theorem dX9_down_0 : decode cX9_down 0 = .ok (.aload_n 0, 1) := by decide +kernel
theorem dX9_down_1 : decode cX9_down 1 = .ok (.iload_n 1, 1) := by decide +kernel
theorem dX9_down_2 : decode cX9_down 2 = .ok (.invokevirtual 119, 3) := by decide +kernel
theorem dX9_down_5 : decode cX9_down 5 = .ok (.ifCond .ne 5, 3) := by decide +kernel
theorem dX9_down_8 : decode cX9_down 8 = .ok (.iconst (-1), 1) := by decide +kernel
theorem dX9_down_9 : decode cX9_down 9 = .ok (.ireturn, 1) := by decide +kernel
theorem dX9_down_10 : decode cX9_down 10 = .ok (.aload_n 0, 1) := by decide +kernel
theorem dX9_down_11 : decode cX9_down 11 = .ok (.iload_n 1, 1) := by decide +kernel
theorem dX9_down_12 : decode cX9_down 12 = .ok (.invokevirtual 140, 3) := by decide +kernel
theorem dX9_down_15 : decode cX9_down 15 = .ok (.ifCond .ne 6, 3) := by decide +kernel
theorem dX9_down_18 : decode cX9_down 18 = .ok (.bipush (-2), 2) := by decide +kernel
theorem dX9_down_20 : decode cX9_down 20 = .ok (.ireturn, 1) := by decide +kernel
theorem dX9_down_21 : decode cX9_down 21 = .ok (.aload_n 0, 1) := by decide +kernel
theorem dX9_down_22 : decode cX9_down 22 = .ok (.invokevirtual 131, 3) := by decide +kernel
theorem dX9_down_25 : decode cX9_down 25 = .ok (.aload_n 0, 1) := by decide +kernel
theorem dX9_down_26 : decode cX9_down 26 = .ok (.getfield 22, 3) := by decide +kernel
theorem dX9_down_29 : decode cX9_down 29 = .ok (.iconst 1, 1) := by decide +kernel
theorem dX9_down_30 : decode cX9_down 30 = .ok (.dup2, 1) := by decide +kernel
theorem dX9_down_31 : decode cX9_down 31 = .ok (.iaload, 1) := by decide +kernel
theorem dX9_down_32 : decode cX9_down 32 = .ok (.iconst 1, 1) := by decide +kernel
theorem dX9_down_33 : decode cX9_down 33 = .ok (.iload_n 1, 1) := by decide +kernel
theorem dX9_down_34 : decode cX9_down 34 = .ok (.ishl, 1) := by decide +kernel
theorem dX9_down_35 : decode cX9_down 35 = .ok (.ixor, 1) := by decide +kernel
theorem dX9_down_36 : decode cX9_down 36 = .ok (.iastore, 1) := by decide +kernel
theorem dX9_down_37 : decode cX9_down 37 = .ok (.aload_n 0, 1) := by decide +kernel
theorem dX9_down_38 : decode cX9_down 38 = .ok (.getfield 22, 3) := by decide +kernel
theorem dX9_down_41 : decode cX9_down 41 = .ok (.iconst 3, 1) := by decide +kernel
theorem dX9_down_42 : decode cX9_down 42 = .ok (.iload_n 1, 1) := by decide +kernel
theorem dX9_down_43 : decode cX9_down 43 = .ok (.iadd, 1) := by decide +kernel
theorem dX9_down_44 : decode cX9_down 44 = .ok (.iaload, 1) := by decide +kernel
theorem dX9_down_45 : decode cX9_down 45 = .ok (.ireturn, 1) := by decide +kernel
theorem dX9_up_0 : decode cX9_up 0 = .ok (.aload_n 0, 1) := by decide +kernel
theorem dX9_up_1 : decode cX9_up 1 = .ok (.iload_n 1, 1) := by decide +kernel
theorem dX9_up_2 : decode cX9_up 2 = .ok (.invokevirtual 119, 3) := by decide +kernel
theorem dX9_up_5 : decode cX9_up 5 = .ok (.ifCond .ne 5, 3) := by decide +kernel
theorem dX9_up_8 : decode cX9_up 8 = .ok (.iconst (-1), 1) := by decide +kernel
theorem dX9_up_9 : decode cX9_up 9 = .ok (.ireturn, 1) := by decide +kernel
theorem dX9_up_10 : decode cX9_up 10 = .ok (.aload_n 0, 1) := by decide +kernel
theorem dX9_up_11 : decode cX9_up 11 = .ok (.iload_n 1, 1) := by decide +kernel
theorem dX9_up_12 : decode cX9_up 12 = .ok (.invokevirtual 143, 3) := by decide +kernel
theorem dX9_up_15 : decode cX9_up 15 = .ok (.ifCond .ne 6, 3) := by decide +kernel
theorem dX9_up_18 : decode cX9_up 18 = .ok (.bipush (-2), 2) := by decide +kernel
theorem dX9_up_20 : decode cX9_up 20 = .ok (.ireturn, 1) := by decide +kernel
theorem dX9_up_21 : decode cX9_up 21 = .ok (.aload_n 0, 1) := by decide +kernel
theorem dX9_up_22 : decode cX9_up 22 = .ok (.invokevirtual 131, 3) := by decide +kernel
theorem dX9_up_25 : decode cX9_up 25 = .ok (.aload_n 0, 1) := by decide +kernel
theorem dX9_up_26 : decode cX9_up 26 = .ok (.getfield 22, 3) := by decide +kernel
theorem dX9_up_29 : decode cX9_up 29 = .ok (.iconst 1, 1) := by decide +kernel
theorem dX9_up_30 : decode cX9_up 30 = .ok (.dup2, 1) := by decide +kernel
theorem dX9_up_31 : decode cX9_up 31 = .ok (.iaload, 1) := by decide +kernel
theorem dX9_up_32 : decode cX9_up 32 = .ok (.iconst 1, 1) := by decide +kernel
theorem dX9_up_33 : decode cX9_up 33 = .ok (.iload_n 1, 1) := by decide +kernel
theorem dX9_up_34 : decode cX9_up 34 = .ok (.ishl, 1) := by decide +kernel
theorem dX9_up_35 : decode cX9_up 35 = .ok (.ior, 1) := by decide +kernel
theorem dX9_up_36 : decode cX9_up 36 = .ok (.iastore, 1) := by decide +kernel
theorem dX9_up_37 : decode cX9_up 37 = .ok (.iconst 0, 1) := by decide +kernel
theorem dX9_up_38 : decode cX9_up 38 = .ok (.istore_n 2, 1) := by decide +kernel
theorem dX9_up_39 : decode cX9_up 39 = .ok (.iconst 0, 1) := by decide +kernel
theorem dX9_up_40 : decode cX9_up 40 = .ok (.istore_n 3, 1) := by decide +kernel
theorem dX9_up_41 : decode cX9_up 41 = .ok (.iload_n 3, 1) := by decide +kernel
theorem dX9_up_42 : decode cX9_up 42 = .ok (.aload_n 0, 1) := by decide +kernel
theorem dX9_up_43 : decode cX9_up 43 = .ok (.getfield 13, 3) := by decide +kernel
theorem dX9_up_46 : decode cX9_up 46 = .ok (.iconst 1, 1) := by decide +kernel
theorem dX9_up_47 : decode cX9_up 47 = .ok (.iaload, 1) := by decide +kernel
theorem dX9_up_48 : decode cX9_up 48 = .ok (.if_icmp .ge 51, 3) := by decide +kernel
theorem dX9_up_51 : decode cX9_up 51 = .ok (.iload_n 2, 1) := by decide +kernel
theorem dX9_up_52 : decode cX9_up 52 = .ok (.aload_n 0, 1) := by decide +kernel
theorem dX9_up_53 : decode cX9_up 53 = .ok (.getfield 22, 3) := by decide +kernel
theorem dX9_up_56 : decode cX9_up 56 = .ok (.iconst 1, 1) := by decide +kernel
theorem dX9_up_57 : decode cX9_up 57 = .ok (.iaload, 1) := by decide +kernel
theorem dX9_up_58 : decode cX9_up 58 = .ok (.iload_n 3, 1) := by decide +kernel
theorem dX9_up_59 : decode cX9_up 59 = .ok (.invokestatic 94, 3) := by decide +kernel
theorem dX9_up_62 : decode cX9_up 62 = .ok (.ifCond .eq 28, 3) := by decide +kernel
theorem dX9_up_65 : decode cX9_up 65 = .ok (.aload_n 0, 1) := by decide +kernel
theorem dX9_up_66 : decode cX9_up 66 = .ok (.getfield 22, 3) := by decide +kernel
theorem dX9_up_69 : decode cX9_up 69 = .ok (.bipush 9, 2) := by decide +kernel
theorem dX9_up_71 : decode cX9_up 71 = .ok (.iload_n 3, 1) := by decide +kernel
theorem dX9_up_72 : decode cX9_up 72 = .ok (.iadd, 1) := by decide +kernel
theorem dX9_up_73 : decode cX9_up 73 = .ok (.iaload, 1) := by decide +kernel
theorem dX9_up_74 : decode cX9_up 74 = .ok (.aload_n 0, 1) := by decide +kernel
theorem dX9_up_75 : decode cX9_up 75 = .ok (.getfield 22, 3) := by decide +kernel
theorem dX9_up_78 : decode cX9_up 78 = .ok (.bipush 9, 2) := by decide +kernel
theorem dX9_up_80 : decode cX9_up 80 = .ok (.iload_n 1, 1) := by decide +kernel
theorem dX9_up_81 : decode cX9_up 81 = .ok (.iadd, 1) := by decide +kernel
theorem dX9_up_82 : decode cX9_up 82 = .ok (.iaload, 1) := by decide +kernel
theorem dX9_up_83 : decode cX9_up 83 = .ok (.if_icmp .ne 7, 3) := by decide +kernel
theorem dX9_up_86 : decode cX9_up 86 = .ok (.iconst 1, 1) := by decide +kernel
theorem dX9_up_87 : decode cX9_up 87 = .ok (.goto 4, 3) := by decide +kernel
theorem dX9_up_90 : decode cX9_up 90 = .ok (.iconst 0, 1) := by decide +kernel
theorem dX9_up_91 : decode cX9_up 91 = .ok (.iadd, 1) := by decide +kernel
theorem dX9_up_92 : decode cX9_up 92 = .ok (.istore_n 2, 1) := by decide +kernel
theorem dX9_up_93 : decode cX9_up 93 = .ok (.iinc 3 1, 3) := by decide +kernel
theorem dX9_up_96 : decode cX9_up 96 = .ok (.goto (-55), 3) := by decide +kernel
theorem dX9_up_99 : decode cX9_up 99 = .ok (.iload_n 2, 1) := by decide +kernel
theorem dX9_up_100 : decode cX9_up 100 = .ok (.ireturn, 1) := by decide +kernel
theorem dX9_send_0 : decode cX9_send 0 = .ok (.aload_n 0, 1) := by decide +kernel
theorem dX9_send_1 : decode cX9_send 1 = .ok (.iload_n 1, 1) := by decide +kernel
theorem dX9_send_2 : decode cX9_send 2 = .ok (.invokevirtual 119, 3) := by decide +kernel
theorem dX9_send_5 : decode cX9_send 5 = .ok (.ifCond .eq 11, 3) := by decide +kernel
theorem dX9_send_8 : decode cX9_send 8 = .ok (.aload_n 0, 1) := by decide +kernel
theorem dX9_send_9 : decode cX9_send 9 = .ok (.iload_n 2, 1) := by decide +kernel
theorem dX9_send_10 : decode cX9_send 10 = .ok (.invokevirtual 101, 3) := by decide +kernel
theorem dX9_send_13 : decode cX9_send 13 = .ok (.ifCond .ne 5, 3) := by decide +kernel
theorem dX9_send_16 : decode cX9_send 16 = .ok (.iconst (-1), 1) := by decide +kernel
theorem dX9_send_17 : decode cX9_send 17 = .ok (.ireturn, 1) := by decide +kernel
theorem dX9_send_18 : decode cX9_send 18 = .ok (.aload_n 0, 1) := by decide +kernel
theorem dX9_send_19 : decode cX9_send 19 = .ok (.getfield 22, 3) := by decide +kernel
theorem dX9_send_22 : decode cX9_send 22 = .ok (.iconst 1, 1) := by decide +kernel
theorem dX9_send_23 : decode cX9_send 23 = .ok (.iaload, 1) := by decide +kernel
theorem dX9_send_24 : decode cX9_send 24 = .ok (.iload_n 1, 1) := by decide +kernel
theorem dX9_send_25 : decode cX9_send 25 = .ok (.invokestatic 94, 3) := by decide +kernel
theorem dX9_send_28 : decode cX9_send 28 = .ok (.ifCond .eq 6, 3) := by decide +kernel
theorem dX9_send_31 : decode cX9_send 31 = .ok (.bipush (-2), 2) := by decide +kernel
theorem dX9_send_33 : decode cX9_send 33 = .ok (.ireturn, 1) := by decide +kernel
theorem dX9_send_34 : decode cX9_send 34 = .ok (.aload_n 0, 1) := by decide +kernel
theorem dX9_send_35 : decode cX9_send 35 = .ok (.invokevirtual 131, 3) := by decide +kernel
theorem dX9_send_38 : decode cX9_send 38 = .ok (.aload_n 0, 1) := by decide +kernel
theorem dX9_send_39 : decode cX9_send 39 = .ok (.getfield 22, 3) := by decide +kernel
theorem dX9_send_42 : decode cX9_send 42 = .ok (.bipush 9, 2) := by decide +kernel
theorem dX9_send_44 : decode cX9_send 44 = .ok (.iload_n 1, 1) := by decide +kernel
theorem dX9_send_45 : decode cX9_send 45 = .ok (.iadd, 1) := by decide +kernel
theorem dX9_send_46 : decode cX9_send 46 = .ok (.iaload, 1) := by decide +kernel
theorem dX9_send_47 : decode cX9_send 47 = .ok (.istore_n 3, 1) := by decide +kernel
theorem dX9_send_48 : decode cX9_send 48 = .ok (.aload_n 0, 1) := by decide +kernel
theorem dX9_send_49 : decode cX9_send 49 = .ok (.getfield 22, 3) := by decide +kernel
theorem dX9_send_52 : decode cX9_send 52 = .ok (.bipush 9, 2) := by decide +kernel
theorem dX9_send_54 : decode cX9_send 54 = .ok (.iload_n 1, 1) := by decide +kernel
theorem dX9_send_55 : decode cX9_send 55 = .ok (.iadd, 1) := by decide +kernel
theorem dX9_send_56 : decode cX9_send 56 = .ok (.iload_n 2, 1) := by decide +kernel
theorem dX9_send_57 : decode cX9_send 57 = .ok (.iastore, 1) := by decide +kernel
theorem dX9_send_58 : decode cX9_send 58 = .ok (.iload_n 3, 1) := by decide +kernel
theorem dX9_send_59 : decode cX9_send 59 = .ok (.ireturn, 1) := by decide +kernel
theorem dX9_undo_0 : decode cX9_undo 0 = .ok (.aload_n 0, 1) := by decide +kernel
theorem dX9_undo_1 : decode cX9_undo 1 = .ok (.getfield 88, 3) := by decide +kernel
theorem dX9_undo_4 : decode cX9_undo 4 = .ok (.ifCond .ne 6, 3) := by decide +kernel
theorem dX9_undo_7 : decode cX9_undo 7 = .ok (.bipush (-2), 2) := by decide +kernel
theorem dX9_undo_9 : decode cX9_undo 9 = .ok (.ireturn, 1) := by decide +kernel
theorem dX9_undo_10 : decode cX9_undo 10 = .ok (.aload_n 0, 1) := by decide +kernel
theorem dX9_undo_11 : decode cX9_undo 11 = .ok (.dup, 1) := by decide +kernel
theorem dX9_undo_12 : decode cX9_undo 12 = .ok (.getfield 88, 3) := by decide +kernel
theorem dX9_undo_15 : decode cX9_undo 15 = .ok (.iconst 1, 1) := by decide +kernel
theorem dX9_undo_16 : decode cX9_undo 16 = .ok (.isub, 1) := by decide +kernel
theorem dX9_undo_17 : decode cX9_undo 17 = .ok (.putfield 88, 3) := by decide +kernel
theorem dX9_undo_20 : decode cX9_undo 20 = .ok (.iconst 0, 1) := by decide +kernel
theorem dX9_undo_21 : decode cX9_undo 21 = .ok (.istore_n 1, 1) := by decide +kernel
theorem dX9_undo_22 : decode cX9_undo 22 = .ok (.iload_n 1, 1) := by decide +kernel
theorem dX9_undo_23 : decode cX9_undo 23 = .ok (.bipush 23, 2) := by decide +kernel
theorem dX9_undo_25 : decode cX9_undo 25 = .ok (.if_icmp .ge 29, 3) := by decide +kernel
theorem dX9_undo_28 : decode cX9_undo 28 = .ok (.aload_n 0, 1) := by decide +kernel
theorem dX9_undo_29 : decode cX9_undo 29 = .ok (.getfield 22, 3) := by decide +kernel
theorem dX9_undo_32 : decode cX9_undo 32 = .ok (.iload_n 1, 1) := by decide +kernel
theorem dX9_undo_33 : decode cX9_undo 33 = .ok (.aload_n 0, 1) := by decide +kernel
theorem dX9_undo_34 : decode cX9_undo 34 = .ok (.getfield 25, 3) := by decide +kernel
theorem dX9_undo_37 : decode cX9_undo 37 = .ok (.bipush 23, 2) := by decide +kernel
theorem dX9_undo_39 : decode cX9_undo 39 = .ok (.aload_n 0, 1) := by decide +kernel
theorem dX9_undo_40 : decode cX9_undo 40 = .ok (.getfield 88, 3) := by decide +kernel
theorem dX9_undo_43 : decode cX9_undo 43 = .ok (.imul, 1) := by decide +kernel
theorem dX9_undo_44 : decode cX9_undo 44 = .ok (.iload_n 1, 1) := by decide +kernel
theorem dX9_undo_45 : decode cX9_undo 45 = .ok (.iadd, 1) := by decide +kernel
theorem dX9_undo_46 : decode cX9_undo 46 = .ok (.iaload, 1) := by decide +kernel
theorem dX9_undo_47 : decode cX9_undo 47 = .ok (.iastore, 1) := by decide +kernel
theorem dX9_undo_48 : decode cX9_undo 48 = .ok (.iinc 1 1, 3) := by decide +kernel
theorem dX9_undo_51 : decode cX9_undo 51 = .ok (.goto (-29), 3) := by decide +kernel
theorem dX9_undo_54 : decode cX9_undo 54 = .ok (.aload_n 0, 1) := by decide +kernel
theorem dX9_undo_55 : decode cX9_undo 55 = .ok (.getfield 88, 3) := by decide +kernel
theorem dX9_undo_58 : decode cX9_undo 58 = .ok (.ireturn, 1) := by decide +kernel
theorem dX9_holds_0 : decode cX9_holds 0 = .ok (.iconst 0, 1) := by decide +kernel
theorem dX9_holds_1 : decode cX9_holds 1 = .ok (.istore_n 1, 1) := by decide +kernel
theorem dX9_holds_2 : decode cX9_holds 2 = .ok (.iload_n 1, 1) := by decide +kernel
theorem dX9_holds_3 : decode cX9_holds 3 = .ok (.bipush 23, 2) := by decide +kernel
theorem dX9_holds_5 : decode cX9_holds 5 = .ok (.if_icmp .ge 21, 3) := by decide +kernel
theorem dX9_holds_8 : decode cX9_holds 8 = .ok (.aload_n 0, 1) := by decide +kernel
theorem dX9_holds_9 : decode cX9_holds 9 = .ok (.getfield 31, 3) := by decide +kernel
theorem dX9_holds_12 : decode cX9_holds 12 = .ok (.iload_n 1, 1) := by decide +kernel
theorem dX9_holds_13 : decode cX9_holds 13 = .ok (.aload_n 0, 1) := by decide +kernel
theorem dX9_holds_14 : decode cX9_holds 14 = .ok (.getfield 22, 3) := by decide +kernel
theorem dX9_holds_17 : decode cX9_holds 17 = .ok (.iload_n 1, 1) := by decide +kernel
theorem dX9_holds_18 : decode cX9_holds 18 = .ok (.iaload, 1) := by decide +kernel
theorem dX9_holds_19 : decode cX9_holds 19 = .ok (.iastore, 1) := by decide +kernel
theorem dX9_holds_20 : decode cX9_holds 20 = .ok (.iinc 1 1, 3) := by decide +kernel
theorem dX9_holds_23 : decode cX9_holds 23 = .ok (.goto (-21), 3) := by decide +kernel
theorem dX9_holds_26 : decode cX9_holds 26 = .ok (.return_, 1) := by decide +kernel
theorem dX9_lets_0 : decode cX9_lets 0 = .ok (.iconst 0, 1) := by decide +kernel
theorem dX9_lets_1 : decode cX9_lets 1 = .ok (.istore_n 1, 1) := by decide +kernel
theorem dX9_lets_2 : decode cX9_lets 2 = .ok (.iload_n 1, 1) := by decide +kernel
theorem dX9_lets_3 : decode cX9_lets 3 = .ok (.bipush 23, 2) := by decide +kernel
theorem dX9_lets_5 : decode cX9_lets 5 = .ok (.if_icmp .ge 21, 3) := by decide +kernel
theorem dX9_lets_8 : decode cX9_lets 8 = .ok (.aload_n 0, 1) := by decide +kernel
theorem dX9_lets_9 : decode cX9_lets 9 = .ok (.getfield 22, 3) := by decide +kernel
theorem dX9_lets_12 : decode cX9_lets 12 = .ok (.iload_n 1, 1) := by decide +kernel
theorem dX9_lets_13 : decode cX9_lets 13 = .ok (.aload_n 0, 1) := by decide +kernel
theorem dX9_lets_14 : decode cX9_lets 14 = .ok (.getfield 31, 3) := by decide +kernel
theorem dX9_lets_17 : decode cX9_lets 17 = .ok (.iload_n 1, 1) := by decide +kernel
theorem dX9_lets_18 : decode cX9_lets 18 = .ok (.iaload, 1) := by decide +kernel
theorem dX9_lets_19 : decode cX9_lets 19 = .ok (.iastore, 1) := by decide +kernel
theorem dX9_lets_20 : decode cX9_lets 20 = .ok (.iinc 1 1, 3) := by decide +kernel
theorem dX9_lets_23 : decode cX9_lets 23 = .ok (.goto (-21), 3) := by decide +kernel
theorem dX9_lets_26 : decode cX9_lets 26 = .ok (.return_, 1) := by decide +kernel
theorem dX9_falls_0 : decode cX9_falls 0 = .ok (.aload_n 0, 1) := by decide +kernel
theorem dX9_falls_1 : decode cX9_falls 1 = .ok (.getfield 22, 3) := by decide +kernel
theorem dX9_falls_4 : decode cX9_falls 4 = .ok (.iconst 2, 1) := by decide +kernel
theorem dX9_falls_5 : decode cX9_falls 5 = .ok (.iaload, 1) := by decide +kernel
theorem dX9_falls_6 : decode cX9_falls 6 = .ok (.istore_n 2, 1) := by decide +kernel
theorem dX9_falls_7 : decode cX9_falls 7 = .ok (.iconst 0, 1) := by decide +kernel
theorem dX9_falls_8 : decode cX9_falls 8 = .ok (.istore_n 3, 1) := by decide +kernel
theorem dX9_falls_9 : decode cX9_falls 9 = .ok (.iload_n 3, 1) := by decide +kernel
theorem dX9_falls_10 : decode cX9_falls 10 = .ok (.iload_n 1, 1) := by decide +kernel
theorem dX9_falls_11 : decode cX9_falls 11 = .ok (.iconst 1, 1) := by decide +kernel
theorem dX9_falls_12 : decode cX9_falls 12 = .ok (.iadd, 1) := by decide +kernel
theorem dX9_falls_13 : decode cX9_falls 13 = .ok (.if_icmp .ge 23, 3) := by decide +kernel
theorem dX9_falls_16 : decode cX9_falls 16 = .ok (.aload_n 0, 1) := by decide +kernel
theorem dX9_falls_17 : decode cX9_falls 17 = .ok (.getfield 22, 3) := by decide +kernel
theorem dX9_falls_20 : decode cX9_falls 20 = .ok (.iconst 2, 1) := by decide +kernel
theorem dX9_falls_21 : decode cX9_falls 21 = .ok (.iaload, 1) := by decide +kernel
theorem dX9_falls_22 : decode cX9_falls 22 = .ok (.iload_n 2, 1) := by decide +kernel
theorem dX9_falls_23 : decode cX9_falls 23 = .ok (.if_icmp .ne 13, 3) := by decide +kernel
theorem dX9_falls_26 : decode cX9_falls 26 = .ok (.aload_n 0, 1) := by decide +kernel
theorem dX9_falls_27 : decode cX9_falls 27 = .ok (.invokevirtual 134, 3) := by decide +kernel
theorem dX9_falls_30 : decode cX9_falls 30 = .ok (.iinc 3 1, 3) := by decide +kernel
theorem dX9_falls_33 : decode cX9_falls 33 = .ok (.goto (-24), 3) := by decide +kernel
theorem dX9_falls_36 : decode cX9_falls 36 = .ok (.iload_n 3, 1) := by decide +kernel
theorem dX9_falls_37 : decode cX9_falls 37 = .ok (.ireturn, 1) := by decide +kernel
theorem dX9_lowest_0 : decode cX9_lowest 0 = .ok (.iconst 0, 1) := by decide +kernel
theorem dX9_lowest_1 : decode cX9_lowest 1 = .ok (.istore_n 1, 1) := by decide +kernel
theorem dX9_lowest_2 : decode cX9_lowest 2 = .ok (.iload_n 0, 1) := by decide +kernel
theorem dX9_lowest_3 : decode cX9_lowest 3 = .ok (.iload_n 1, 1) := by decide +kernel
theorem dX9_lowest_4 : decode cX9_lowest 4 = .ok (.invokestatic 94, 3) := by decide +kernel
theorem dX9_lowest_7 : decode cX9_lowest 7 = .ok (.ifCond .ne 9, 3) := by decide +kernel
theorem dX9_lowest_10 : decode cX9_lowest 10 = .ok (.iinc 1 1, 3) := by decide +kernel
theorem dX9_lowest_13 : decode cX9_lowest 13 = .ok (.goto (-11), 3) := by decide +kernel
theorem dX9_lowest_16 : decode cX9_lowest 16 = .ok (.iload_n 1, 1) := by decide +kernel
theorem dX9_lowest_17 : decode cX9_lowest 17 = .ok (.ireturn, 1) := by decide +kernel
theorem dX9_stands_0 : decode cX9_stands 0 = .ok (.iload_n 1, 1) := by decide +kernel
theorem dX9_stands_1 : decode cX9_stands 1 = .ok (.iconst 0, 1) := by decide +kernel
theorem dX9_stands_2 : decode cX9_stands 2 = .ok (.iconst 1, 1) := by decide +kernel
theorem dX9_stands_3 : decode cX9_stands 3 = .ok (.invokestatic 52, 3) := by decide +kernel
theorem dX9_stands_6 : decode cX9_stands 6 = .ok (.ifCond .ne 5, 3) := by decide +kernel
theorem dX9_stands_9 : decode cX9_stands 9 = .ok (.iconst (-1), 1) := by decide +kernel
theorem dX9_stands_10 : decode cX9_stands 10 = .ok (.ireturn, 1) := by decide +kernel
theorem dX9_stands_11 : decode cX9_stands 11 = .ok (.aload_n 0, 1) := by decide +kernel
theorem dX9_stands_12 : decode cX9_stands 12 = .ok (.invokevirtual 146, 3) := by decide +kernel
theorem dX9_stands_15 : decode cX9_stands 15 = .ok (.aload_n 0, 1) := by decide +kernel
theorem dX9_stands_16 : decode cX9_stands 16 = .ok (.bipush 60, 2) := by decide +kernel
theorem dX9_stands_18 : decode cX9_stands 18 = .ok (.invokevirtual 149, 3) := by decide +kernel
theorem dX9_stands_21 : decode cX9_stands 21 = .ok (.istore_n 2, 1) := by decide +kernel
theorem dX9_stands_22 : decode cX9_stands 22 = .ok (.aload_n 0, 1) := by decide +kernel
theorem dX9_stands_23 : decode cX9_stands 23 = .ok (.getfield 22, 3) := by decide +kernel
theorem dX9_stands_26 : decode cX9_stands 26 = .ok (.iconst 2, 1) := by decide +kernel
theorem dX9_stands_27 : decode cX9_stands 27 = .ok (.iaload, 1) := by decide +kernel
theorem dX9_stands_28 : decode cX9_stands 28 = .ok (.aload_n 0, 1) := by decide +kernel
theorem dX9_stands_29 : decode cX9_stands 29 = .ok (.getfield 31, 3) := by decide +kernel
theorem dX9_stands_32 : decode cX9_stands 32 = .ok (.iconst 2, 1) := by decide +kernel
theorem dX9_stands_33 : decode cX9_stands 33 = .ok (.iaload, 1) := by decide +kernel
theorem dX9_stands_34 : decode cX9_stands 34 = .ok (.iconst (-1), 1) := by decide +kernel
theorem dX9_stands_35 : decode cX9_stands 35 = .ok (.ixor, 1) := by decide +kernel
theorem dX9_stands_36 : decode cX9_stands 36 = .ok (.iand, 1) := by decide +kernel
theorem dX9_stands_37 : decode cX9_stands 37 = .ok (.istore_n 3, 1) := by decide +kernel
theorem dX9_stands_38 : decode cX9_stands 38 = .ok (.aload_n 0, 1) := by decide +kernel
theorem dX9_stands_39 : decode cX9_stands 39 = .ok (.invokevirtual 152, 3) := by decide +kernel
theorem dX9_stands_42 : decode cX9_stands 42 = .ok (.iload_n 2, 1) := by decide +kernel
theorem dX9_stands_43 : decode cX9_stands 43 = .ok (.bipush 60, 2) := by decide +kernel
theorem dX9_stands_45 : decode cX9_stands 45 = .ok (.if_icmp .le 8, 3) := by decide +kernel
theorem dX9_stands_48 : decode cX9_stands 48 = .ok (.bipush (-4), 2) := by decide +kernel
theorem dX9_stands_50 : decode cX9_stands 50 = .ok (.goto 15, 3) := by decide +kernel
theorem dX9_stands_53 : decode cX9_stands 53 = .ok (.iload_n 1, 1) := by decide +kernel
theorem dX9_stands_54 : decode cX9_stands 54 = .ok (.ifCond .ne 7, 3) := by decide +kernel
theorem dX9_stands_57 : decode cX9_stands 57 = .ok (.iload_n 2, 1) := by decide +kernel
theorem dX9_stands_58 : decode cX9_stands 58 = .ok (.goto 7, 3) := by decide +kernel
theorem dX9_stands_61 : decode cX9_stands 61 = .ok (.iload_n 3, 1) := by decide +kernel
theorem dX9_stands_62 : decode cX9_stands 62 = .ok (.invokestatic 155, 3) := by decide +kernel
theorem dX9_stands_65 : decode cX9_stands 65 = .ok (.ireturn, 1) := by decide +kernel
theorem dX9_useful_0 : decode cX9_useful 0 = .ok (.iconst 0, 1) := by decide +kernel
theorem dX9_useful_1 : decode cX9_useful 1 = .ok (.istore_n 1, 1) := by decide +kernel
theorem dX9_useful_2 : decode cX9_useful 2 = .ok (.iconst 0, 1) := by decide +kernel
theorem dX9_useful_3 : decode cX9_useful 3 = .ok (.istore_n 2, 1) := by decide +kernel
theorem dX9_useful_4 : decode cX9_useful 4 = .ok (.iload_n 2, 1) := by decide +kernel
theorem dX9_useful_5 : decode cX9_useful 5 = .ok (.aload_n 0, 1) := by decide +kernel
theorem dX9_useful_6 : decode cX9_useful 6 = .ok (.getfield 13, 3) := by decide +kernel
theorem dX9_useful_9 : decode cX9_useful 9 = .ok (.iconst 1, 1) := by decide +kernel
theorem dX9_useful_10 : decode cX9_useful 10 = .ok (.iaload, 1) := by decide +kernel
theorem dX9_useful_11 : decode cX9_useful 11 = .ok (.if_icmp .ge 35, 3) := by decide +kernel
theorem dX9_useful_14 : decode cX9_useful 14 = .ok (.iload_n 1, 1) := by decide +kernel
theorem dX9_useful_15 : decode cX9_useful 15 = .ok (.aload_n 0, 1) := by decide +kernel
theorem dX9_useful_16 : decode cX9_useful 16 = .ok (.aload_n 0, 1) := by decide +kernel
theorem dX9_useful_17 : decode cX9_useful 17 = .ok (.getfield 22, 3) := by decide +kernel
theorem dX9_useful_20 : decode cX9_useful 20 = .ok (.bipush 9, 2) := by decide +kernel
theorem dX9_useful_22 : decode cX9_useful 22 = .ok (.iload_n 2, 1) := by decide +kernel
theorem dX9_useful_23 : decode cX9_useful 23 = .ok (.iadd, 1) := by decide +kernel
theorem dX9_useful_24 : decode cX9_useful 24 = .ok (.iaload, 1) := by decide +kernel
theorem dX9_useful_25 : decode cX9_useful 25 = .ok (.invokevirtual 98, 3) := by decide +kernel
theorem dX9_useful_28 : decode cX9_useful 28 = .ok (.ifCond .eq 7, 3) := by decide +kernel
theorem dX9_useful_31 : decode cX9_useful 31 = .ok (.iconst 0, 1) := by decide +kernel
theorem dX9_useful_32 : decode cX9_useful 32 = .ok (.goto 6, 3) := by decide +kernel
theorem dX9_useful_35 : decode cX9_useful 35 = .ok (.iconst 1, 1) := by decide +kernel
theorem dX9_useful_36 : decode cX9_useful 36 = .ok (.iload_n 2, 1) := by decide +kernel
theorem dX9_useful_37 : decode cX9_useful 37 = .ok (.ishl, 1) := by decide +kernel
theorem dX9_useful_38 : decode cX9_useful 38 = .ok (.ior, 1) := by decide +kernel
theorem dX9_useful_39 : decode cX9_useful 39 = .ok (.istore_n 1, 1) := by decide +kernel
theorem dX9_useful_40 : decode cX9_useful 40 = .ok (.iinc 2 1, 3) := by decide +kernel
theorem dX9_useful_43 : decode cX9_useful 43 = .ok (.goto (-39), 3) := by decide +kernel
theorem dX9_useful_46 : decode cX9_useful 46 = .ok (.iload_n 1, 1) := by decide +kernel
theorem dX9_useful_47 : decode cX9_useful 47 = .ok (.ireturn, 1) := by decide +kernel
theorem dX9_needed_0 : decode cX9_needed 0 = .ok (.aload_n 0, 1) := by decide +kernel
theorem dX9_needed_1 : decode cX9_needed 1 = .ok (.invokevirtual 146, 3) := by decide +kernel
theorem dX9_needed_4 : decode cX9_needed 4 = .ok (.aload_n 0, 1) := by decide +kernel
theorem dX9_needed_5 : decode cX9_needed 5 = .ok (.invokevirtual 158, 3) := by decide +kernel
theorem dX9_needed_8 : decode cX9_needed 8 = .ok (.istore_n 1, 1) := by decide +kernel
theorem dX9_needed_9 : decode cX9_needed 9 = .ok (.bipush (-4), 2) := by decide +kernel
theorem dX9_needed_11 : decode cX9_needed 11 = .ok (.istore_n 2, 1) := by decide +kernel
theorem dX9_needed_12 : decode cX9_needed 12 = .ok (.iconst 0, 1) := by decide +kernel
theorem dX9_needed_13 : decode cX9_needed 13 = .ok (.istore_n 3, 1) := by decide +kernel
theorem dX9_needed_14 : decode cX9_needed 14 = .ok (.iload_n 3, 1) := by decide +kernel
theorem dX9_needed_15 : decode cX9_needed 15 = .ok (.iconst 1, 1) := by decide +kernel
theorem dX9_needed_16 : decode cX9_needed 16 = .ok (.aload_n 0, 1) := by decide +kernel
theorem dX9_needed_17 : decode cX9_needed 17 = .ok (.getfield 13, 3) := by decide +kernel
theorem dX9_needed_20 : decode cX9_needed 20 = .ok (.iconst 1, 1) := by decide +kernel
theorem dX9_needed_21 : decode cX9_needed 21 = .ok (.iaload, 1) := by decide +kernel
theorem dX9_needed_22 : decode cX9_needed 22 = .ok (.ishl, 1) := by decide +kernel
theorem dX9_needed_23 : decode cX9_needed 23 = .ok (.if_icmp .ge 62, 3) := by decide +kernel
theorem dX9_needed_26 : decode cX9_needed 26 = .ok (.iload_n 3, 1) := by decide +kernel
theorem dX9_needed_27 : decode cX9_needed 27 = .ok (.iload_n 1, 1) := by decide +kernel
theorem dX9_needed_28 : decode cX9_needed 28 = .ok (.iconst (-1), 1) := by decide +kernel
theorem dX9_needed_29 : decode cX9_needed 29 = .ok (.ixor, 1) := by decide +kernel
theorem dX9_needed_30 : decode cX9_needed 30 = .ok (.iand, 1) := by decide +kernel
theorem dX9_needed_31 : decode cX9_needed 31 = .ok (.ifCond .ne 48, 3) := by decide +kernel
theorem dX9_needed_34 : decode cX9_needed 34 = .ok (.iload_n 2, 1) := by decide +kernel
theorem dX9_needed_35 : decode cX9_needed 35 = .ok (.bipush (-4), 2) := by decide +kernel
theorem dX9_needed_37 : decode cX9_needed 37 = .ok (.if_icmp .eq 14, 3) := by decide +kernel
theorem dX9_needed_40 : decode cX9_needed 40 = .ok (.iload_n 3, 1) := by decide +kernel
theorem dX9_needed_41 : decode cX9_needed 41 = .ok (.invokestatic 161, 3) := by decide +kernel
theorem dX9_needed_44 : decode cX9_needed 44 = .ok (.iload_n 2, 1) := by decide +kernel
theorem dX9_needed_45 : decode cX9_needed 45 = .ok (.invokestatic 161, 3) := by decide +kernel
theorem dX9_needed_48 : decode cX9_needed 48 = .ok (.if_icmp .ge 31, 3) := by decide +kernel
theorem dX9_needed_51 : decode cX9_needed 51 = .ok (.aload_n 0, 1) := by decide +kernel
theorem dX9_needed_52 : decode cX9_needed 52 = .ok (.getfield 22, 3) := by decide +kernel
theorem dX9_needed_55 : decode cX9_needed 55 = .ok (.iconst 1, 1) := by decide +kernel
theorem dX9_needed_56 : decode cX9_needed 56 = .ok (.iload_n 3, 1) := by decide +kernel
theorem dX9_needed_57 : decode cX9_needed 57 = .ok (.iastore, 1) := by decide +kernel
theorem dX9_needed_58 : decode cX9_needed 58 = .ok (.aload_n 0, 1) := by decide +kernel
theorem dX9_needed_59 : decode cX9_needed 59 = .ok (.bipush 12, 2) := by decide +kernel
theorem dX9_needed_61 : decode cX9_needed 61 = .ok (.invokevirtual 149, 3) := by decide +kernel
theorem dX9_needed_64 : decode cX9_needed 64 = .ok (.bipush 12, 2) := by decide +kernel
theorem dX9_needed_66 : decode cX9_needed 66 = .ok (.if_icmp .le 7, 3) := by decide +kernel
theorem dX9_needed_69 : decode cX9_needed 69 = .ok (.iload_n 3, 1) := by decide +kernel
theorem dX9_needed_70 : decode cX9_needed 70 = .ok (.goto 4, 3) := by decide +kernel
theorem dX9_needed_73 : decode cX9_needed 73 = .ok (.iload_n 2, 1) := by decide +kernel
theorem dX9_needed_74 : decode cX9_needed 74 = .ok (.istore_n 2, 1) := by decide +kernel
theorem dX9_needed_75 : decode cX9_needed 75 = .ok (.aload_n 0, 1) := by decide +kernel
theorem dX9_needed_76 : decode cX9_needed 76 = .ok (.invokevirtual 152, 3) := by decide +kernel
theorem dX9_needed_79 : decode cX9_needed 79 = .ok (.iinc 3 1, 3) := by decide +kernel
theorem dX9_needed_82 : decode cX9_needed 82 = .ok (.goto (-68), 3) := by decide +kernel
theorem dX9_needed_85 : decode cX9_needed 85 = .ok (.iload_n 2, 1) := by decide +kernel
theorem dX9_needed_86 : decode cX9_needed 86 = .ok (.ireturn, 1) := by decide +kernel
theorem dX9_cuts_0 : decode cX9_cuts 0 = .ok (.aload_n 0, 1) := by decide +kernel
theorem dX9_cuts_1 : decode cX9_cuts 1 = .ok (.invokevirtual 146, 3) := by decide +kernel
theorem dX9_cuts_4 : decode cX9_cuts 4 = .ok (.bipush (-4), 2) := by decide +kernel
theorem dX9_cuts_6 : decode cX9_cuts 6 = .ok (.istore_n 1, 1) := by decide +kernel
theorem dX9_cuts_7 : decode cX9_cuts 7 = .ok (.iconst 0, 1) := by decide +kernel
theorem dX9_cuts_8 : decode cX9_cuts 8 = .ok (.istore_n 2, 1) := by decide +kernel
theorem dX9_cuts_9 : decode cX9_cuts 9 = .ok (.iload_n 2, 1) := by decide +kernel
theorem dX9_cuts_10 : decode cX9_cuts 10 = .ok (.iconst 1, 1) := by decide +kernel
theorem dX9_cuts_11 : decode cX9_cuts 11 = .ok (.aload_n 0, 1) := by decide +kernel
theorem dX9_cuts_12 : decode cX9_cuts 12 = .ok (.getfield 13, 3) := by decide +kernel
theorem dX9_cuts_15 : decode cX9_cuts 15 = .ok (.iconst 1, 1) := by decide +kernel
theorem dX9_cuts_16 : decode cX9_cuts 16 = .ok (.iaload, 1) := by decide +kernel
theorem dX9_cuts_17 : decode cX9_cuts 17 = .ok (.ishl, 1) := by decide +kernel
theorem dX9_cuts_18 : decode cX9_cuts 18 = .ok (.if_icmp .ge 72, 3) := by decide +kernel
theorem dX9_cuts_21 : decode cX9_cuts 21 = .ok (.iload_n 2, 1) := by decide +kernel
theorem dX9_cuts_22 : decode cX9_cuts 22 = .ok (.aload_n 0, 1) := by decide +kernel
theorem dX9_cuts_23 : decode cX9_cuts 23 = .ok (.getfield 22, 3) := by decide +kernel
theorem dX9_cuts_26 : decode cX9_cuts 26 = .ok (.iconst 1, 1) := by decide +kernel
theorem dX9_cuts_27 : decode cX9_cuts 27 = .ok (.iaload, 1) := by decide +kernel
theorem dX9_cuts_28 : decode cX9_cuts 28 = .ok (.iconst (-1), 1) := by decide +kernel
theorem dX9_cuts_29 : decode cX9_cuts 29 = .ok (.ixor, 1) := by decide +kernel
theorem dX9_cuts_30 : decode cX9_cuts 30 = .ok (.iand, 1) := by decide +kernel
theorem dX9_cuts_31 : decode cX9_cuts 31 = .ok (.ifCond .ne 53, 3) := by decide +kernel
theorem dX9_cuts_34 : decode cX9_cuts 34 = .ok (.iload_n 1, 1) := by decide +kernel
theorem dX9_cuts_35 : decode cX9_cuts 35 = .ok (.bipush (-4), 2) := by decide +kernel
theorem dX9_cuts_37 : decode cX9_cuts 37 = .ok (.if_icmp .eq 14, 3) := by decide +kernel
theorem dX9_cuts_40 : decode cX9_cuts 40 = .ok (.iload_n 2, 1) := by decide +kernel
theorem dX9_cuts_41 : decode cX9_cuts 41 = .ok (.invokestatic 161, 3) := by decide +kernel
theorem dX9_cuts_44 : decode cX9_cuts 44 = .ok (.iload_n 1, 1) := by decide +kernel
theorem dX9_cuts_45 : decode cX9_cuts 45 = .ok (.invokestatic 161, 3) := by decide +kernel
theorem dX9_cuts_48 : decode cX9_cuts 48 = .ok (.if_icmp .ge 36, 3) := by decide +kernel
theorem dX9_cuts_51 : decode cX9_cuts 51 = .ok (.aload_n 0, 1) := by decide +kernel
theorem dX9_cuts_52 : decode cX9_cuts 52 = .ok (.getfield 22, 3) := by decide +kernel
theorem dX9_cuts_55 : decode cX9_cuts 55 = .ok (.iconst 1, 1) := by decide +kernel
theorem dX9_cuts_56 : decode cX9_cuts 56 = .ok (.dup2, 1) := by decide +kernel
theorem dX9_cuts_57 : decode cX9_cuts 57 = .ok (.iaload, 1) := by decide +kernel
theorem dX9_cuts_58 : decode cX9_cuts 58 = .ok (.iload_n 2, 1) := by decide +kernel
theorem dX9_cuts_59 : decode cX9_cuts 59 = .ok (.iconst (-1), 1) := by decide +kernel
theorem dX9_cuts_60 : decode cX9_cuts 60 = .ok (.ixor, 1) := by decide +kernel
theorem dX9_cuts_61 : decode cX9_cuts 61 = .ok (.iand, 1) := by decide +kernel
theorem dX9_cuts_62 : decode cX9_cuts 62 = .ok (.iastore, 1) := by decide +kernel
theorem dX9_cuts_63 : decode cX9_cuts 63 = .ok (.aload_n 0, 1) := by decide +kernel
theorem dX9_cuts_64 : decode cX9_cuts 64 = .ok (.bipush 24, 2) := by decide +kernel
theorem dX9_cuts_66 : decode cX9_cuts 66 = .ok (.invokevirtual 149, 3) := by decide +kernel
theorem dX9_cuts_69 : decode cX9_cuts 69 = .ok (.bipush 24, 2) := by decide +kernel
theorem dX9_cuts_71 : decode cX9_cuts 71 = .ok (.if_icmp .le 7, 3) := by decide +kernel
theorem dX9_cuts_74 : decode cX9_cuts 74 = .ok (.iload_n 1, 1) := by decide +kernel
theorem dX9_cuts_75 : decode cX9_cuts 75 = .ok (.goto 4, 3) := by decide +kernel
theorem dX9_cuts_78 : decode cX9_cuts 78 = .ok (.iload_n 2, 1) := by decide +kernel
theorem dX9_cuts_79 : decode cX9_cuts 79 = .ok (.istore_n 1, 1) := by decide +kernel
theorem dX9_cuts_80 : decode cX9_cuts 80 = .ok (.aload_n 0, 1) := by decide +kernel
theorem dX9_cuts_81 : decode cX9_cuts 81 = .ok (.invokevirtual 152, 3) := by decide +kernel
theorem dX9_cuts_84 : decode cX9_cuts 84 = .ok (.iinc 2 1, 3) := by decide +kernel
theorem dX9_cuts_87 : decode cX9_cuts 87 = .ok (.goto (-78), 3) := by decide +kernel
theorem dX9_cuts_90 : decode cX9_cuts 90 = .ok (.iload_n 1, 1) := by decide +kernel
theorem dX9_cuts_91 : decode cX9_cuts 91 = .ok (.ireturn, 1) := by decide +kernel
theorem dX9_rises_0 : decode cX9_rises 0 = .ok (.aload_n 0, 1) := by decide +kernel
theorem dX9_rises_1 : decode cX9_rises 1 = .ok (.getfield 22, 3) := by decide +kernel
theorem dX9_rises_4 : decode cX9_rises 4 = .ok (.iconst 1, 1) := by decide +kernel
theorem dX9_rises_5 : decode cX9_rises 5 = .ok (.dup2, 1) := by decide +kernel
theorem dX9_rises_6 : decode cX9_rises 6 = .ok (.iaload, 1) := by decide +kernel
theorem dX9_rises_7 : decode cX9_rises 7 = .ok (.aload_n 0, 1) := by decide +kernel
theorem dX9_rises_8 : decode cX9_rises 8 = .ok (.aload_n 0, 1) := by decide +kernel
theorem dX9_rises_9 : decode cX9_rises 9 = .ok (.getfield 22, 3) := by decide +kernel
theorem dX9_rises_12 : decode cX9_rises 12 = .ok (.bipush 9, 2) := by decide +kernel
theorem dX9_rises_14 : decode cX9_rises 14 = .ok (.iload_n 1, 1) := by decide +kernel
theorem dX9_rises_15 : decode cX9_rises 15 = .ok (.iadd, 1) := by decide +kernel
theorem dX9_rises_16 : decode cX9_rises 16 = .ok (.iaload, 1) := by decide +kernel
theorem dX9_rises_17 : decode cX9_rises 17 = .ok (.invokevirtual 98, 3) := by decide +kernel
theorem dX9_rises_20 : decode cX9_rises 20 = .ok (.ifCond .eq 7, 3) := by decide +kernel
theorem dX9_rises_23 : decode cX9_rises 23 = .ok (.iconst 0, 1) := by decide +kernel
theorem dX9_rises_24 : decode cX9_rises 24 = .ok (.goto 6, 3) := by decide +kernel
theorem dX9_rises_27 : decode cX9_rises 27 = .ok (.iconst 1, 1) := by decide +kernel
theorem dX9_rises_28 : decode cX9_rises 28 = .ok (.iload_n 1, 1) := by decide +kernel
theorem dX9_rises_29 : decode cX9_rises 29 = .ok (.ishl, 1) := by decide +kernel
theorem dX9_rises_30 : decode cX9_rises 30 = .ok (.ior, 1) := by decide +kernel
theorem dX9_rises_31 : decode cX9_rises 31 = .ok (.iastore, 1) := by decide +kernel
theorem dX9_rises_32 : decode cX9_rises 32 = .ok (.return_, 1) := by decide +kernel
theorem dX9_hourOf_0 : decode cX9_hourOf 0 = .ok (.iload_n 0, 1) := by decide +kernel
theorem dX9_hourOf_1 : decode cX9_hourOf 1 = .ok (.istore 4, 2) := by decide +kernel
theorem dX9_hourOf_3 : decode cX9_hourOf 3 = .ok (.iload_n 2, 1) := by decide +kernel
theorem dX9_hourOf_4 : decode cX9_hourOf 4 = .ok (.iconst 1, 1) := by decide +kernel
theorem dX9_hourOf_5 : decode cX9_hourOf 5 = .ok (.isub, 1) := by decide +kernel
theorem dX9_hourOf_6 : decode cX9_hourOf 6 = .ok (.istore 5, 2) := by decide +kernel
theorem dX9_hourOf_8 : decode cX9_hourOf 8 = .ok (.iload 5, 2) := by decide +kernel
theorem dX9_hourOf_10 : decode cX9_hourOf 10 = .ok (.iload_n 1, 1) := by decide +kernel
theorem dX9_hourOf_11 : decode cX9_hourOf 11 = .ok (.if_icmp .le 15, 3) := by decide +kernel
theorem dX9_hourOf_14 : decode cX9_hourOf 14 = .ok (.iload 4, 2) := by decide +kernel
theorem dX9_hourOf_16 : decode cX9_hourOf 16 = .ok (.iload_n 3, 1) := by decide +kernel
theorem dX9_hourOf_17 : decode cX9_hourOf 17 = .ok (.idiv, 1) := by decide +kernel
theorem dX9_hourOf_18 : decode cX9_hourOf 18 = .ok (.istore 4, 2) := by decide +kernel
theorem dX9_hourOf_20 : decode cX9_hourOf 20 = .ok (.iinc 5 (-1), 3) := by decide +kernel
theorem dX9_hourOf_23 : decode cX9_hourOf 23 = .ok (.goto (-15), 3) := by decide +kernel
theorem dX9_hourOf_26 : decode cX9_hourOf 26 = .ok (.iload 4, 2) := by decide +kernel
theorem dX9_hourOf_28 : decode cX9_hourOf 28 = .ok (.iload_n 3, 1) := by decide +kernel
theorem dX9_hourOf_29 : decode cX9_hourOf 29 = .ok (.irem, 1) := by decide +kernel
theorem dX9_hourOf_30 : decode cX9_hourOf 30 = .ok (.ireturn, 1) := by decide +kernel
theorem dX9_isRoster_0 : decode cX9_isRoster 0 = .ok (.aload_n 0, 1) := by decide +kernel
theorem dX9_isRoster_1 : decode cX9_isRoster 1 = .ok (.getfield 31, 3) := by decide +kernel
theorem dX9_isRoster_4 : decode cX9_isRoster 4 = .ok (.iconst 1, 1) := by decide +kernel
theorem dX9_isRoster_5 : decode cX9_isRoster 5 = .ok (.iaload, 1) := by decide +kernel
theorem dX9_isRoster_6 : decode cX9_isRoster 6 = .ok (.istore_n 3, 1) := by decide +kernel
theorem dX9_isRoster_7 : decode cX9_isRoster 7 = .ok (.iload_n 3, 1) := by decide +kernel
theorem dX9_isRoster_8 : decode cX9_isRoster 8 = .ok (.invokestatic 161, 3) := by decide +kernel
theorem dX9_isRoster_11 : decode cX9_isRoster 11 = .ok (.istore 4, 2) := by decide +kernel
theorem dX9_isRoster_13 : decode cX9_isRoster 13 = .ok (.iconst 1, 1) := by decide +kernel
theorem dX9_isRoster_14 : decode cX9_isRoster 14 = .ok (.istore 5, 2) := by decide +kernel
theorem dX9_isRoster_16 : decode cX9_isRoster 16 = .ok (.iconst 0, 1) := by decide +kernel
theorem dX9_isRoster_17 : decode cX9_isRoster 17 = .ok (.istore 6, 2) := by decide +kernel
theorem dX9_isRoster_19 : decode cX9_isRoster 19 = .ok (.iload 6, 2) := by decide +kernel
theorem dX9_isRoster_21 : decode cX9_isRoster 21 = .ok (.iload_n 2, 1) := by decide +kernel
theorem dX9_isRoster_22 : decode cX9_isRoster 22 = .ok (.if_icmp .ge 126, 3) := by decide +kernel
theorem dX9_isRoster_25 : decode cX9_isRoster 25 = .ok (.iload 5, 2) := by decide +kernel
theorem dX9_isRoster_27 : decode cX9_isRoster 27 = .ok (.ifCond .eq 121, 3) := by decide +kernel
theorem dX9_isRoster_30 : decode cX9_isRoster 30 = .ok (.iconst 0, 1) := by decide +kernel
theorem dX9_isRoster_31 : decode cX9_isRoster 31 = .ok (.istore 7, 2) := by decide +kernel
theorem dX9_isRoster_33 : decode cX9_isRoster 33 = .ok (.iconst 0, 1) := by decide +kernel
theorem dX9_isRoster_34 : decode cX9_isRoster 34 = .ok (.istore 8, 2) := by decide +kernel
theorem dX9_isRoster_36 : decode cX9_isRoster 36 = .ok (.iload 8, 2) := by decide +kernel
theorem dX9_isRoster_38 : decode cX9_isRoster 38 = .ok (.aload_n 0, 1) := by decide +kernel
theorem dX9_isRoster_39 : decode cX9_isRoster 39 = .ok (.getfield 13, 3) := by decide +kernel
theorem dX9_isRoster_42 : decode cX9_isRoster 42 = .ok (.iconst 1, 1) := by decide +kernel
theorem dX9_isRoster_43 : decode cX9_isRoster 43 = .ok (.iaload, 1) := by decide +kernel
theorem dX9_isRoster_44 : decode cX9_isRoster 44 = .ok (.if_icmp .ge 72, 3) := by decide +kernel
theorem dX9_isRoster_47 : decode cX9_isRoster 47 = .ok (.iload_n 3, 1) := by decide +kernel
theorem dX9_isRoster_48 : decode cX9_isRoster 48 = .ok (.iload 8, 2) := by decide +kernel
theorem dX9_isRoster_50 : decode cX9_isRoster 50 = .ok (.invokestatic 94, 3) := by decide +kernel
theorem dX9_isRoster_53 : decode cX9_isRoster 53 = .ok (.ifCond .eq 57, 3) := by decide +kernel
theorem dX9_isRoster_56 : decode cX9_isRoster 56 = .ok (.iload_n 1, 1) := by decide +kernel
theorem dX9_isRoster_57 : decode cX9_isRoster 57 = .ok (.iload 7, 2) := by decide +kernel
theorem dX9_isRoster_59 : decode cX9_isRoster 59 = .ok (.iload 4, 2) := by decide +kernel
theorem dX9_isRoster_61 : decode cX9_isRoster 61 = .ok (.iload_n 2, 1) := by decide +kernel
theorem dX9_isRoster_62 : decode cX9_isRoster 62 = .ok (.invokestatic 164, 3) := by decide +kernel
theorem dX9_isRoster_65 : decode cX9_isRoster 65 = .ok (.istore 9, 2) := by decide +kernel
theorem dX9_isRoster_67 : decode cX9_isRoster 67 = .ok (.iload 9, 2) := by decide +kernel
theorem dX9_isRoster_69 : decode cX9_isRoster 69 = .ok (.iload 6, 2) := by decide +kernel
theorem dX9_isRoster_71 : decode cX9_isRoster 71 = .ok (.iconst 1, 1) := by decide +kernel
theorem dX9_isRoster_72 : decode cX9_isRoster 72 = .ok (.isub, 1) := by decide +kernel
theorem dX9_isRoster_73 : decode cX9_isRoster 73 = .ok (.if_icmp .ne 12, 3) := by decide +kernel
theorem dX9_isRoster_76 : decode cX9_isRoster 76 = .ok (.aload_n 0, 1) := by decide +kernel
theorem dX9_isRoster_77 : decode cX9_isRoster 77 = .ok (.iload 8, 2) := by decide +kernel
theorem dX9_isRoster_79 : decode cX9_isRoster 79 = .ok (.invokevirtual 168, 3) := by decide +kernel
theorem dX9_isRoster_82 : decode cX9_isRoster 82 = .ok (.goto 25, 3) := by decide +kernel
theorem dX9_isRoster_85 : decode cX9_isRoster 85 = .ok (.iload 9, 2) := by decide +kernel
theorem dX9_isRoster_87 : decode cX9_isRoster 87 = .ok (.iload 6, 2) := by decide +kernel
theorem dX9_isRoster_89 : decode cX9_isRoster 89 = .ok (.if_icmp .ne 18, 3) := by decide +kernel
theorem dX9_isRoster_92 : decode cX9_isRoster 92 = .ok (.aload_n 0, 1) := by decide +kernel
theorem dX9_isRoster_93 : decode cX9_isRoster 93 = .ok (.getfield 22, 3) := by decide +kernel
theorem dX9_isRoster_96 : decode cX9_isRoster 96 = .ok (.iconst 1, 1) := by decide +kernel
theorem dX9_isRoster_97 : decode cX9_isRoster 97 = .ok (.dup2, 1) := by decide +kernel
theorem dX9_isRoster_98 : decode cX9_isRoster 98 = .ok (.iaload, 1) := by decide +kernel
theorem dX9_isRoster_99 : decode cX9_isRoster 99 = .ok (.iconst 1, 1) := by decide +kernel
theorem dX9_isRoster_100 : decode cX9_isRoster 100 = .ok (.iload 8, 2) := by decide +kernel
theorem dX9_isRoster_102 : decode cX9_isRoster 102 = .ok (.ishl, 1) := by decide +kernel
theorem dX9_isRoster_103 : decode cX9_isRoster 103 = .ok (.iconst (-1), 1) := by decide +kernel
theorem dX9_isRoster_104 : decode cX9_isRoster 104 = .ok (.ixor, 1) := by decide +kernel
theorem dX9_isRoster_105 : decode cX9_isRoster 105 = .ok (.iand, 1) := by decide +kernel
theorem dX9_isRoster_106 : decode cX9_isRoster 106 = .ok (.iastore, 1) := by decide +kernel
theorem dX9_isRoster_107 : decode cX9_isRoster 107 = .ok (.iinc 7 1, 3) := by decide +kernel
theorem dX9_isRoster_110 : decode cX9_isRoster 110 = .ok (.iinc 8 1, 3) := by decide +kernel
theorem dX9_isRoster_113 : decode cX9_isRoster 113 = .ok (.goto (-77), 3) := by decide +kernel
theorem dX9_isRoster_116 : decode cX9_isRoster 116 = .ok (.aload_n 0, 1) := by decide +kernel
theorem dX9_isRoster_117 : decode cX9_isRoster 117 = .ok (.invokevirtual 134, 3) := by decide +kernel
theorem dX9_isRoster_120 : decode cX9_isRoster 120 = .ok (.aload_n 0, 1) := by decide +kernel
theorem dX9_isRoster_121 : decode cX9_isRoster 121 = .ok (.getfield 22, 3) := by decide +kernel
theorem dX9_isRoster_124 : decode cX9_isRoster 124 = .ok (.iconst 2, 1) := by decide +kernel
theorem dX9_isRoster_125 : decode cX9_isRoster 125 = .ok (.iaload, 1) := by decide +kernel
theorem dX9_isRoster_126 : decode cX9_isRoster 126 = .ok (.aload_n 0, 1) := by decide +kernel
theorem dX9_isRoster_127 : decode cX9_isRoster 127 = .ok (.getfield 31, 3) := by decide +kernel
theorem dX9_isRoster_130 : decode cX9_isRoster 130 = .ok (.iconst 2, 1) := by decide +kernel
theorem dX9_isRoster_131 : decode cX9_isRoster 131 = .ok (.iaload, 1) := by decide +kernel
theorem dX9_isRoster_132 : decode cX9_isRoster 132 = .ok (.if_icmp .ne 7, 3) := by decide +kernel
theorem dX9_isRoster_135 : decode cX9_isRoster 135 = .ok (.iconst 1, 1) := by decide +kernel
theorem dX9_isRoster_136 : decode cX9_isRoster 136 = .ok (.goto 4, 3) := by decide +kernel
theorem dX9_isRoster_139 : decode cX9_isRoster 139 = .ok (.iconst 0, 1) := by decide +kernel
theorem dX9_isRoster_140 : decode cX9_isRoster 140 = .ok (.istore 5, 2) := by decide +kernel
theorem dX9_isRoster_142 : decode cX9_isRoster 142 = .ok (.iinc 6 1, 3) := by decide +kernel
theorem dX9_isRoster_145 : decode cX9_isRoster 145 = .ok (.goto (-126), 3) := by decide +kernel
theorem dX9_isRoster_148 : decode cX9_isRoster 148 = .ok (.aload_n 0, 1) := by decide +kernel
theorem dX9_isRoster_149 : decode cX9_isRoster 149 = .ok (.invokevirtual 152, 3) := by decide +kernel
theorem dX9_isRoster_152 : decode cX9_isRoster 152 = .ok (.iload 5, 2) := by decide +kernel
theorem dX9_isRoster_154 : decode cX9_isRoster 154 = .ok (.ireturn, 1) := by decide +kernel
theorem dX9_roster_0 : decode cX9_roster 0 = .ok (.iload_n 1, 1) := by decide +kernel
theorem dX9_roster_1 : decode cX9_roster 1 = .ok (.iconst 1, 1) := by decide +kernel
theorem dX9_roster_2 : decode cX9_roster 2 = .ok (.iconst 5, 1) := by decide +kernel
theorem dX9_roster_3 : decode cX9_roster 3 = .ok (.invokestatic 52, 3) := by decide +kernel
theorem dX9_roster_6 : decode cX9_roster 6 = .ok (.ifCond .eq 16, 3) := by decide +kernel
theorem dX9_roster_9 : decode cX9_roster 9 = .ok (.iload_n 2, 1) := by decide +kernel
theorem dX9_roster_10 : decode cX9_roster 10 = .ok (.iconst (-1), 1) := by decide +kernel
theorem dX9_roster_11 : decode cX9_roster 11 = .ok (.if_icmp .eq 13, 3) := by decide +kernel
theorem dX9_roster_14 : decode cX9_roster 14 = .ok (.aload_n 0, 1) := by decide +kernel
theorem dX9_roster_15 : decode cX9_roster 15 = .ok (.iload_n 2, 1) := by decide +kernel
theorem dX9_roster_16 : decode cX9_roster 16 = .ok (.invokevirtual 119, 3) := by decide +kernel
theorem dX9_roster_19 : decode cX9_roster 19 = .ok (.ifCond .ne 5, 3) := by decide +kernel
theorem dX9_roster_22 : decode cX9_roster 22 = .ok (.iconst (-1), 1) := by decide +kernel
theorem dX9_roster_23 : decode cX9_roster 23 = .ok (.ireturn, 1) := by decide +kernel
theorem dX9_roster_24 : decode cX9_roster 24 = .ok (.aload_n 0, 1) := by decide +kernel
theorem dX9_roster_25 : decode cX9_roster 25 = .ok (.invokevirtual 146, 3) := by decide +kernel
theorem dX9_roster_28 : decode cX9_roster 28 = .ok (.aload_n 0, 1) := by decide +kernel
theorem dX9_roster_29 : decode cX9_roster 29 = .ok (.getfield 22, 3) := by decide +kernel
theorem dX9_roster_32 : decode cX9_roster 32 = .ok (.iconst 1, 1) := by decide +kernel
theorem dX9_roster_33 : decode cX9_roster 33 = .ok (.iaload, 1) := by decide +kernel
theorem dX9_roster_34 : decode cX9_roster 34 = .ok (.invokestatic 161, 3) := by decide +kernel
theorem dX9_roster_37 : decode cX9_roster 37 = .ok (.istore_n 3, 1) := by decide +kernel
theorem dX9_roster_38 : decode cX9_roster 38 = .ok (.iconst 1, 1) := by decide +kernel
theorem dX9_roster_39 : decode cX9_roster 39 = .ok (.istore 4, 2) := by decide +kernel
theorem dX9_roster_41 : decode cX9_roster 41 = .ok (.iconst 0, 1) := by decide +kernel
theorem dX9_roster_42 : decode cX9_roster 42 = .ok (.istore 5, 2) := by decide +kernel
theorem dX9_roster_44 : decode cX9_roster 44 = .ok (.iload 5, 2) := by decide +kernel
theorem dX9_roster_46 : decode cX9_roster 46 = .ok (.iload_n 3, 1) := by decide +kernel
theorem dX9_roster_47 : decode cX9_roster 47 = .ok (.if_icmp .ge 15, 3) := by decide +kernel
theorem dX9_roster_50 : decode cX9_roster 50 = .ok (.iload 4, 2) := by decide +kernel
theorem dX9_roster_52 : decode cX9_roster 52 = .ok (.iload_n 1, 1) := by decide +kernel
theorem dX9_roster_53 : decode cX9_roster 53 = .ok (.imul, 1) := by decide +kernel
theorem dX9_roster_54 : decode cX9_roster 54 = .ok (.istore 4, 2) := by decide +kernel
theorem dX9_roster_56 : decode cX9_roster 56 = .ok (.iinc 5 1, 3) := by decide +kernel
theorem dX9_roster_59 : decode cX9_roster 59 = .ok (.goto (-15), 3) := by decide +kernel
theorem dX9_roster_62 : decode cX9_roster 62 = .ok (.iconst 0, 1) := by decide +kernel
theorem dX9_roster_63 : decode cX9_roster 63 = .ok (.istore 5, 2) := by decide +kernel
theorem dX9_roster_65 : decode cX9_roster 65 = .ok (.iload 5, 2) := by decide +kernel
theorem dX9_roster_67 : decode cX9_roster 67 = .ok (.iload 4, 2) := by decide +kernel
theorem dX9_roster_69 : decode cX9_roster 69 = .ok (.if_icmp .ge 19, 3) := by decide +kernel
theorem dX9_roster_72 : decode cX9_roster 72 = .ok (.aload_n 0, 1) := by decide +kernel
theorem dX9_roster_73 : decode cX9_roster 73 = .ok (.iload 5, 2) := by decide +kernel
theorem dX9_roster_75 : decode cX9_roster 75 = .ok (.iload_n 1, 1) := by decide +kernel
theorem dX9_roster_76 : decode cX9_roster 76 = .ok (.invokevirtual 172, 3) := by decide +kernel
theorem dX9_roster_79 : decode cX9_roster 79 = .ok (.ifCond .ne 9, 3) := by decide +kernel
theorem dX9_roster_82 : decode cX9_roster 82 = .ok (.iinc 5 1, 3) := by decide +kernel
theorem dX9_roster_85 : decode cX9_roster 85 = .ok (.goto (-20), 3) := by decide +kernel
theorem dX9_roster_88 : decode cX9_roster 88 = .ok (.iload 5, 2) := by decide +kernel
theorem dX9_roster_90 : decode cX9_roster 90 = .ok (.iload 4, 2) := by decide +kernel
theorem dX9_roster_92 : decode cX9_roster 92 = .ok (.if_icmp .eq 20, 3) := by decide +kernel
theorem dX9_roster_95 : decode cX9_roster 95 = .ok (.iload_n 2, 1) := by decide +kernel
theorem dX9_roster_96 : decode cX9_roster 96 = .ok (.ifCond .lt 19, 3) := by decide +kernel
theorem dX9_roster_99 : decode cX9_roster 99 = .ok (.aload_n 0, 1) := by decide +kernel
theorem dX9_roster_100 : decode cX9_roster 100 = .ok (.getfield 22, 3) := by decide +kernel
theorem dX9_roster_103 : decode cX9_roster 103 = .ok (.iconst 1, 1) := by decide +kernel
theorem dX9_roster_104 : decode cX9_roster 104 = .ok (.iaload, 1) := by decide +kernel
theorem dX9_roster_105 : decode cX9_roster 105 = .ok (.iload_n 2, 1) := by decide +kernel
theorem dX9_roster_106 : decode cX9_roster 106 = .ok (.invokestatic 94, 3) := by decide +kernel
theorem dX9_roster_109 : decode cX9_roster 109 = .ok (.ifCond .ne 6, 3) := by decide +kernel
theorem dX9_roster_112 : decode cX9_roster 112 = .ok (.bipush (-4), 2) := by decide +kernel
theorem dX9_roster_114 : decode cX9_roster 114 = .ok (.ireturn, 1) := by decide +kernel
theorem dX9_roster_115 : decode cX9_roster 115 = .ok (.iload_n 2, 1) := by decide +kernel
theorem dX9_roster_116 : decode cX9_roster 116 = .ok (.iconst (-1), 1) := by decide +kernel
theorem dX9_roster_117 : decode cX9_roster 117 = .ok (.if_icmp .ne 7, 3) := by decide +kernel
theorem dX9_roster_120 : decode cX9_roster 120 = .ok (.iconst 1, 1) := by decide +kernel
theorem dX9_roster_121 : decode cX9_roster 121 = .ok (.goto 25, 3) := by decide +kernel
theorem dX9_roster_124 : decode cX9_roster 124 = .ok (.iload 5, 2) := by decide +kernel
theorem dX9_roster_126 : decode cX9_roster 126 = .ok (.aload_n 0, 1) := by decide +kernel
theorem dX9_roster_127 : decode cX9_roster 127 = .ok (.getfield 22, 3) := by decide +kernel
theorem dX9_roster_130 : decode cX9_roster 130 = .ok (.iconst 1, 1) := by decide +kernel
theorem dX9_roster_131 : decode cX9_roster 131 = .ok (.iaload, 1) := by decide +kernel
theorem dX9_roster_132 : decode cX9_roster 132 = .ok (.iconst 1, 1) := by decide +kernel
theorem dX9_roster_133 : decode cX9_roster 133 = .ok (.iload_n 2, 1) := by decide +kernel
theorem dX9_roster_134 : decode cX9_roster 134 = .ok (.ishl, 1) := by decide +kernel
theorem dX9_roster_135 : decode cX9_roster 135 = .ok (.iconst 1, 1) := by decide +kernel
theorem dX9_roster_136 : decode cX9_roster 136 = .ok (.isub, 1) := by decide +kernel
theorem dX9_roster_137 : decode cX9_roster 137 = .ok (.iand, 1) := by decide +kernel
theorem dX9_roster_138 : decode cX9_roster 138 = .ok (.invokestatic 161, 3) := by decide +kernel
theorem dX9_roster_141 : decode cX9_roster 141 = .ok (.iload_n 3, 1) := by decide +kernel
theorem dX9_roster_142 : decode cX9_roster 142 = .ok (.iload_n 1, 1) := by decide +kernel
theorem dX9_roster_143 : decode cX9_roster 143 = .ok (.invokestatic 164, 3) := by decide +kernel
theorem dX9_roster_146 : decode cX9_roster 146 = .ok (.ireturn, 1) := by decide +kernel
theorem dX9_place_0 : decode cX9_place 0 = .ok (.aload_n 0, 1) := by decide +kernel
theorem dX9_place_1 : decode cX9_place 1 = .ok (.iload_n 1, 1) := by decide +kernel
theorem dX9_place_2 : decode cX9_place 2 = .ok (.invokevirtual 119, 3) := by decide +kernel
theorem dX9_place_5 : decode cX9_place 5 = .ok (.ifCond .ne 5, 3) := by decide +kernel
theorem dX9_place_8 : decode cX9_place 8 = .ok (.iconst (-1), 1) := by decide +kernel
theorem dX9_place_9 : decode cX9_place 9 = .ok (.ireturn, 1) := by decide +kernel
theorem dX9_place_10 : decode cX9_place 10 = .ok (.aload_n 0, 1) := by decide +kernel
theorem dX9_place_11 : decode cX9_place 11 = .ok (.getfield 22, 3) := by decide +kernel
theorem dX9_place_14 : decode cX9_place 14 = .ok (.iconst 1, 1) := by decide +kernel
theorem dX9_place_15 : decode cX9_place 15 = .ok (.iaload, 1) := by decide +kernel
theorem dX9_place_16 : decode cX9_place 16 = .ok (.iload_n 1, 1) := by decide +kernel
theorem dX9_place_17 : decode cX9_place 17 = .ok (.invokestatic 94, 3) := by decide +kernel
theorem dX9_place_20 : decode cX9_place 20 = .ok (.ifCond .eq 6, 3) := by decide +kernel
theorem dX9_place_23 : decode cX9_place 23 = .ok (.bipush (-2), 2) := by decide +kernel
theorem dX9_place_25 : decode cX9_place 25 = .ok (.ireturn, 1) := by decide +kernel
theorem dX9_place_26 : decode cX9_place 26 = .ok (.aload_n 0, 1) := by decide +kernel
theorem dX9_place_27 : decode cX9_place 27 = .ok (.invokevirtual 146, 3) := by decide +kernel
theorem dX9_place_30 : decode cX9_place 30 = .ok (.bipush (-4), 2) := by decide +kernel
theorem dX9_place_32 : decode cX9_place 32 = .ok (.istore_n 2, 1) := by decide +kernel
theorem dX9_place_33 : decode cX9_place 33 = .ok (.iconst 0, 1) := by decide +kernel
theorem dX9_place_34 : decode cX9_place 34 = .ok (.istore_n 3, 1) := by decide +kernel
theorem dX9_place_35 : decode cX9_place 35 = .ok (.iconst 0, 1) := by decide +kernel
theorem dX9_place_36 : decode cX9_place 36 = .ok (.istore 4, 2) := by decide +kernel
theorem dX9_place_38 : decode cX9_place 38 = .ok (.iload 4, 2) := by decide +kernel
theorem dX9_place_40 : decode cX9_place 40 = .ok (.aload_n 0, 1) := by decide +kernel
theorem dX9_place_41 : decode cX9_place 41 = .ok (.getfield 13, 3) := by decide +kernel
theorem dX9_place_44 : decode cX9_place 44 = .ok (.iconst 0, 1) := by decide +kernel
theorem dX9_place_45 : decode cX9_place 45 = .ok (.iaload, 1) := by decide +kernel
theorem dX9_place_46 : decode cX9_place 46 = .ok (.if_icmp .ge 79, 3) := by decide +kernel
theorem dX9_place_49 : decode cX9_place 49 = .ok (.aload_n 0, 1) := by decide +kernel
theorem dX9_place_50 : decode cX9_place 50 = .ok (.iload 4, 2) := by decide +kernel
theorem dX9_place_52 : decode cX9_place 52 = .ok (.invokevirtual 98, 3) := by decide +kernel
theorem dX9_place_55 : decode cX9_place 55 = .ok (.ifCond .ne 64, 3) := by decide +kernel
theorem dX9_place_58 : decode cX9_place 58 = .ok (.aload_n 0, 1) := by decide +kernel
theorem dX9_place_59 : decode cX9_place 59 = .ok (.getfield 22, 3) := by decide +kernel
theorem dX9_place_62 : decode cX9_place 62 = .ok (.bipush 9, 2) := by decide +kernel
theorem dX9_place_64 : decode cX9_place 64 = .ok (.iload_n 1, 1) := by decide +kernel
theorem dX9_place_65 : decode cX9_place 65 = .ok (.iadd, 1) := by decide +kernel
theorem dX9_place_66 : decode cX9_place 66 = .ok (.iload 4, 2) := by decide +kernel
theorem dX9_place_68 : decode cX9_place 68 = .ok (.iastore, 1) := by decide +kernel
theorem dX9_place_69 : decode cX9_place 69 = .ok (.aload_n 0, 1) := by decide +kernel
theorem dX9_place_70 : decode cX9_place 70 = .ok (.getfield 22, 3) := by decide +kernel
theorem dX9_place_73 : decode cX9_place 73 = .ok (.iconst 1, 1) := by decide +kernel
theorem dX9_place_74 : decode cX9_place 74 = .ok (.dup2, 1) := by decide +kernel
theorem dX9_place_75 : decode cX9_place 75 = .ok (.iaload, 1) := by decide +kernel
theorem dX9_place_76 : decode cX9_place 76 = .ok (.iconst 1, 1) := by decide +kernel
theorem dX9_place_77 : decode cX9_place 77 = .ok (.iload_n 1, 1) := by decide +kernel
theorem dX9_place_78 : decode cX9_place 78 = .ok (.ishl, 1) := by decide +kernel
theorem dX9_place_79 : decode cX9_place 79 = .ok (.ior, 1) := by decide +kernel
theorem dX9_place_80 : decode cX9_place 80 = .ok (.iastore, 1) := by decide +kernel
theorem dX9_place_81 : decode cX9_place 81 = .ok (.aload_n 0, 1) := by decide +kernel
theorem dX9_place_82 : decode cX9_place 82 = .ok (.bipush 60, 2) := by decide +kernel
theorem dX9_place_84 : decode cX9_place 84 = .ok (.invokevirtual 149, 3) := by decide +kernel
theorem dX9_place_87 : decode cX9_place 87 = .ok (.istore 5, 2) := by decide +kernel
theorem dX9_place_89 : decode cX9_place 89 = .ok (.aload_n 0, 1) := by decide +kernel
theorem dX9_place_90 : decode cX9_place 90 = .ok (.invokevirtual 152, 3) := by decide +kernel
theorem dX9_place_93 : decode cX9_place 93 = .ok (.iload 5, 2) := by decide +kernel
theorem dX9_place_95 : decode cX9_place 95 = .ok (.iload_n 3, 1) := by decide +kernel
theorem dX9_place_96 : decode cX9_place 96 = .ok (.if_icmp .le 8, 3) := by decide +kernel
theorem dX9_place_99 : decode cX9_place 99 = .ok (.iload 4, 2) := by decide +kernel
theorem dX9_place_101 : decode cX9_place 101 = .ok (.goto 4, 3) := by decide +kernel
theorem dX9_place_104 : decode cX9_place 104 = .ok (.iload_n 2, 1) := by decide +kernel
theorem dX9_place_105 : decode cX9_place 105 = .ok (.istore_n 2, 1) := by decide +kernel
theorem dX9_place_106 : decode cX9_place 106 = .ok (.iload 5, 2) := by decide +kernel
theorem dX9_place_108 : decode cX9_place 108 = .ok (.iload_n 3, 1) := by decide +kernel
theorem dX9_place_109 : decode cX9_place 109 = .ok (.if_icmp .le 8, 3) := by decide +kernel
theorem dX9_place_112 : decode cX9_place 112 = .ok (.iload 5, 2) := by decide +kernel
theorem dX9_place_114 : decode cX9_place 114 = .ok (.goto 4, 3) := by decide +kernel
theorem dX9_place_117 : decode cX9_place 117 = .ok (.iload_n 3, 1) := by decide +kernel
theorem dX9_place_118 : decode cX9_place 118 = .ok (.istore_n 3, 1) := by decide +kernel
theorem dX9_place_119 : decode cX9_place 119 = .ok (.iinc 4 1, 3) := by decide +kernel
theorem dX9_place_122 : decode cX9_place 122 = .ok (.goto (-84), 3) := by decide +kernel
theorem dX9_place_125 : decode cX9_place 125 = .ok (.iload_n 2, 1) := by decide +kernel
theorem dX9_place_126 : decode cX9_place 126 = .ok (.ireturn, 1) := by decide +kernel
theorem dX9_strong_0 : decode cX9_strong 0 = .ok (.aload_n 0, 1) := by decide +kernel
theorem dX9_strong_1 : decode cX9_strong 1 = .ok (.iload_n 1, 1) := by decide +kernel
theorem dX9_strong_2 : decode cX9_strong 2 = .ok (.invokevirtual 119, 3) := by decide +kernel
theorem dX9_strong_5 : decode cX9_strong 5 = .ok (.ifCond .ne 5, 3) := by decide +kernel
theorem dX9_strong_8 : decode cX9_strong 8 = .ok (.iconst (-1), 1) := by decide +kernel
theorem dX9_strong_9 : decode cX9_strong 9 = .ok (.ireturn, 1) := by decide +kernel
theorem dX9_strong_10 : decode cX9_strong 10 = .ok (.aload_n 0, 1) := by decide +kernel
theorem dX9_strong_11 : decode cX9_strong 11 = .ok (.invokevirtual 146, 3) := by decide +kernel
theorem dX9_strong_14 : decode cX9_strong 14 = .ok (.aload_n 0, 1) := by decide +kernel
theorem dX9_strong_15 : decode cX9_strong 15 = .ok (.getfield 13, 3) := by decide +kernel
theorem dX9_strong_18 : decode cX9_strong 18 = .ok (.bipush 26, 2) := by decide +kernel
theorem dX9_strong_20 : decode cX9_strong 20 = .ok (.iload_n 1, 1) := by decide +kernel
theorem dX9_strong_21 : decode cX9_strong 21 = .ok (.iadd, 1) := by decide +kernel
theorem dX9_strong_22 : decode cX9_strong 22 = .ok (.iaload, 1) := by decide +kernel
theorem dX9_strong_23 : decode cX9_strong 23 = .ok (.istore_n 2, 1) := by decide +kernel
theorem dX9_strong_24 : decode cX9_strong 24 = .ok (.aload_n 0, 1) := by decide +kernel
theorem dX9_strong_25 : decode cX9_strong 25 = .ok (.getfield 13, 3) := by decide +kernel
theorem dX9_strong_28 : decode cX9_strong 28 = .ok (.bipush 26, 2) := by decide +kernel
theorem dX9_strong_30 : decode cX9_strong 30 = .ok (.iload_n 1, 1) := by decide +kernel
theorem dX9_strong_31 : decode cX9_strong 31 = .ok (.iadd, 1) := by decide +kernel
theorem dX9_strong_32 : decode cX9_strong 32 = .ok (.bipush 99, 2) := by decide +kernel
theorem dX9_strong_34 : decode cX9_strong 34 = .ok (.iastore, 1) := by decide +kernel
theorem dX9_strong_35 : decode cX9_strong 35 = .ok (.aload_n 0, 1) := by decide +kernel
theorem dX9_strong_36 : decode cX9_strong 36 = .ok (.bipush 60, 2) := by decide +kernel
theorem dX9_strong_38 : decode cX9_strong 38 = .ok (.invokevirtual 149, 3) := by decide +kernel
theorem dX9_strong_41 : decode cX9_strong 41 = .ok (.istore_n 3, 1) := by decide +kernel
theorem dX9_strong_42 : decode cX9_strong 42 = .ok (.aload_n 0, 1) := by decide +kernel
theorem dX9_strong_43 : decode cX9_strong 43 = .ok (.invokevirtual 152, 3) := by decide +kernel
theorem dX9_strong_46 : decode cX9_strong 46 = .ok (.iconst 0, 1) := by decide +kernel
theorem dX9_strong_47 : decode cX9_strong 47 = .ok (.istore 4, 2) := by decide +kernel
theorem dX9_strong_49 : decode cX9_strong 49 = .ok (.iconst 0, 1) := by decide +kernel
theorem dX9_strong_50 : decode cX9_strong 50 = .ok (.istore 5, 2) := by decide +kernel
theorem dX9_strong_52 : decode cX9_strong 52 = .ok (.iload 5, 2) := by decide +kernel
theorem dX9_strong_54 : decode cX9_strong 54 = .ok (.iload_n 3, 1) := by decide +kernel
theorem dX9_strong_55 : decode cX9_strong 55 = .ok (.if_icmp .eq 32, 3) := by decide +kernel
theorem dX9_strong_58 : decode cX9_strong 58 = .ok (.iinc 4 1, 3) := by decide +kernel
theorem dX9_strong_61 : decode cX9_strong 61 = .ok (.aload_n 0, 1) := by decide +kernel
theorem dX9_strong_62 : decode cX9_strong 62 = .ok (.getfield 13, 3) := by decide +kernel
theorem dX9_strong_65 : decode cX9_strong 65 = .ok (.bipush 26, 2) := by decide +kernel
theorem dX9_strong_67 : decode cX9_strong 67 = .ok (.iload_n 1, 1) := by decide +kernel
theorem dX9_strong_68 : decode cX9_strong 68 = .ok (.iadd, 1) := by decide +kernel
theorem dX9_strong_69 : decode cX9_strong 69 = .ok (.iload 4, 2) := by decide +kernel
theorem dX9_strong_71 : decode cX9_strong 71 = .ok (.iastore, 1) := by decide +kernel
theorem dX9_strong_72 : decode cX9_strong 72 = .ok (.aload_n 0, 1) := by decide +kernel
theorem dX9_strong_73 : decode cX9_strong 73 = .ok (.bipush 60, 2) := by decide +kernel
theorem dX9_strong_75 : decode cX9_strong 75 = .ok (.invokevirtual 149, 3) := by decide +kernel
theorem dX9_strong_78 : decode cX9_strong 78 = .ok (.istore 5, 2) := by decide +kernel
theorem dX9_strong_80 : decode cX9_strong 80 = .ok (.aload_n 0, 1) := by decide +kernel
theorem dX9_strong_81 : decode cX9_strong 81 = .ok (.invokevirtual 152, 3) := by decide +kernel
theorem dX9_strong_84 : decode cX9_strong 84 = .ok (.goto (-32), 3) := by decide +kernel
theorem dX9_strong_87 : decode cX9_strong 87 = .ok (.aload_n 0, 1) := by decide +kernel
theorem dX9_strong_88 : decode cX9_strong 88 = .ok (.getfield 13, 3) := by decide +kernel
theorem dX9_strong_91 : decode cX9_strong 91 = .ok (.bipush 26, 2) := by decide +kernel
theorem dX9_strong_93 : decode cX9_strong 93 = .ok (.iload_n 1, 1) := by decide +kernel
theorem dX9_strong_94 : decode cX9_strong 94 = .ok (.iadd, 1) := by decide +kernel
theorem dX9_strong_95 : decode cX9_strong 95 = .ok (.iload_n 2, 1) := by decide +kernel
theorem dX9_strong_96 : decode cX9_strong 96 = .ok (.iastore, 1) := by decide +kernel
theorem dX9_strong_97 : decode cX9_strong 97 = .ok (.iload 4, 2) := by decide +kernel
theorem dX9_strong_99 : decode cX9_strong 99 = .ok (.ireturn, 1) := by decide +kernel
theorem dX9_who_0 : decode cX9_who 0 = .ok (.iload_n 1, 1) := by decide +kernel
theorem dX9_who_1 : decode cX9_who 1 = .ok (.iconst 0, 1) := by decide +kernel
theorem dX9_who_2 : decode cX9_who 2 = .ok (.iconst 1, 1) := by decide +kernel
theorem dX9_who_3 : decode cX9_who 3 = .ok (.aload_n 0, 1) := by decide +kernel
theorem dX9_who_4 : decode cX9_who 4 = .ok (.getfield 13, 3) := by decide +kernel
theorem dX9_who_7 : decode cX9_who 7 = .ok (.iconst 0, 1) := by decide +kernel
theorem dX9_who_8 : decode cX9_who 8 = .ok (.iaload, 1) := by decide +kernel
theorem dX9_who_9 : decode cX9_who 9 = .ok (.ishl, 1) := by decide +kernel
theorem dX9_who_10 : decode cX9_who 10 = .ok (.iconst 1, 1) := by decide +kernel
theorem dX9_who_11 : decode cX9_who 11 = .ok (.isub, 1) := by decide +kernel
theorem dX9_who_12 : decode cX9_who 12 = .ok (.invokestatic 52, 3) := by decide +kernel
theorem dX9_who_15 : decode cX9_who 15 = .ok (.ifCond .eq 12, 3) := by decide +kernel
theorem dX9_who_18 : decode cX9_who 18 = .ok (.iload_n 2, 1) := by decide +kernel
theorem dX9_who_19 : decode cX9_who 19 = .ok (.iconst 0, 1) := by decide +kernel
theorem dX9_who_20 : decode cX9_who 20 = .ok (.iconst 1, 1) := by decide +kernel
theorem dX9_who_21 : decode cX9_who 21 = .ok (.invokestatic 52, 3) := by decide +kernel
theorem dX9_who_24 : decode cX9_who 24 = .ok (.ifCond .ne 5, 3) := by decide +kernel
theorem dX9_who_27 : decode cX9_who 27 = .ok (.iconst (-1), 1) := by decide +kernel
theorem dX9_who_28 : decode cX9_who 28 = .ok (.ireturn, 1) := by decide +kernel
theorem dX9_who_29 : decode cX9_who 29 = .ok (.aload_n 0, 1) := by decide +kernel
theorem dX9_who_30 : decode cX9_who 30 = .ok (.invokevirtual 158, 3) := by decide +kernel
theorem dX9_who_33 : decode cX9_who 33 = .ok (.istore_n 3, 1) := by decide +kernel
theorem dX9_who_34 : decode cX9_who 34 = .ok (.aload_n 0, 1) := by decide +kernel
theorem dX9_who_35 : decode cX9_who 35 = .ok (.getfield 22, 3) := by decide +kernel
theorem dX9_who_38 : decode cX9_who 38 = .ok (.iconst 1, 1) := by decide +kernel
theorem dX9_who_39 : decode cX9_who 39 = .ok (.iaload, 1) := by decide +kernel
theorem dX9_who_40 : decode cX9_who 40 = .ok (.istore 4, 2) := by decide +kernel
theorem dX9_who_42 : decode cX9_who 42 = .ok (.iconst 0, 1) := by decide +kernel
theorem dX9_who_43 : decode cX9_who 43 = .ok (.istore 5, 2) := by decide +kernel
theorem dX9_who_45 : decode cX9_who 45 = .ok (.bipush (-4), 2) := by decide +kernel
theorem dX9_who_47 : decode cX9_who 47 = .ok (.istore 6, 2) := by decide +kernel
theorem dX9_who_49 : decode cX9_who 49 = .ok (.iconst 0, 1) := by decide +kernel
theorem dX9_who_50 : decode cX9_who 50 = .ok (.istore 7, 2) := by decide +kernel
theorem dX9_who_52 : decode cX9_who 52 = .ok (.iload 7, 2) := by decide +kernel
theorem dX9_who_54 : decode cX9_who 54 = .ok (.iconst 1, 1) := by decide +kernel
theorem dX9_who_55 : decode cX9_who 55 = .ok (.aload_n 0, 1) := by decide +kernel
theorem dX9_who_56 : decode cX9_who 56 = .ok (.getfield 13, 3) := by decide +kernel
theorem dX9_who_59 : decode cX9_who 59 = .ok (.iconst 1, 1) := by decide +kernel
theorem dX9_who_60 : decode cX9_who 60 = .ok (.iaload, 1) := by decide +kernel
theorem dX9_who_61 : decode cX9_who 61 = .ok (.ishl, 1) := by decide +kernel
theorem dX9_who_62 : decode cX9_who 62 = .ok (.if_icmp .ge 75, 3) := by decide +kernel
theorem dX9_who_65 : decode cX9_who 65 = .ok (.aload_n 0, 1) := by decide +kernel
theorem dX9_who_66 : decode cX9_who 66 = .ok (.getfield 22, 3) := by decide +kernel
theorem dX9_who_69 : decode cX9_who 69 = .ok (.iconst 1, 1) := by decide +kernel
theorem dX9_who_70 : decode cX9_who 70 = .ok (.iload 7, 2) := by decide +kernel
theorem dX9_who_72 : decode cX9_who 72 = .ok (.iastore, 1) := by decide +kernel
theorem dX9_who_73 : decode cX9_who 73 = .ok (.iload 7, 2) := by decide +kernel
theorem dX9_who_75 : decode cX9_who 75 = .ok (.iload_n 3, 1) := by decide +kernel
theorem dX9_who_76 : decode cX9_who 76 = .ok (.iconst (-1), 1) := by decide +kernel
theorem dX9_who_77 : decode cX9_who 77 = .ok (.ixor, 1) := by decide +kernel
theorem dX9_who_78 : decode cX9_who 78 = .ok (.iand, 1) := by decide +kernel
theorem dX9_who_79 : decode cX9_who 79 = .ok (.ifCond .ne 15, 3) := by decide +kernel
theorem dX9_who_82 : decode cX9_who 82 = .ok (.aload_n 0, 1) := by decide +kernel
theorem dX9_who_83 : decode cX9_who 83 = .ok (.invokevirtual 125, 3) := by decide +kernel
theorem dX9_who_86 : decode cX9_who 86 = .ok (.iload_n 1, 1) := by decide +kernel
theorem dX9_who_87 : decode cX9_who 87 = .ok (.if_icmp .ne 7, 3) := by decide +kernel
theorem dX9_who_90 : decode cX9_who 90 = .ok (.iconst 1, 1) := by decide +kernel
theorem dX9_who_91 : decode cX9_who 91 = .ok (.goto 4, 3) := by decide +kernel
theorem dX9_who_94 : decode cX9_who 94 = .ok (.iconst 0, 1) := by decide +kernel
theorem dX9_who_95 : decode cX9_who 95 = .ok (.istore 8, 2) := by decide +kernel
theorem dX9_who_97 : decode cX9_who 97 = .ok (.iload 8, 2) := by decide +kernel
theorem dX9_who_99 : decode cX9_who 99 = .ok (.ifCond .eq 13, 3) := by decide +kernel
theorem dX9_who_102 : decode cX9_who 102 = .ok (.iload 5, 2) := by decide +kernel
theorem dX9_who_104 : decode cX9_who 104 = .ok (.ifCond .ne 8, 3) := by decide +kernel
theorem dX9_who_107 : decode cX9_who 107 = .ok (.iload 7, 2) := by decide +kernel
theorem dX9_who_109 : decode cX9_who 109 = .ok (.goto 5, 3) := by decide +kernel
theorem dX9_who_112 : decode cX9_who 112 = .ok (.iload 6, 2) := by decide +kernel
theorem dX9_who_114 : decode cX9_who 114 = .ok (.istore 6, 2) := by decide +kernel
theorem dX9_who_116 : decode cX9_who 116 = .ok (.iload 5, 2) := by decide +kernel
theorem dX9_who_118 : decode cX9_who 118 = .ok (.iload 8, 2) := by decide +kernel
theorem dX9_who_120 : decode cX9_who 120 = .ok (.ifCond .eq 7, 3) := by decide +kernel
theorem dX9_who_123 : decode cX9_who 123 = .ok (.iconst 1, 1) := by decide +kernel
theorem dX9_who_124 : decode cX9_who 124 = .ok (.goto 4, 3) := by decide +kernel
theorem dX9_who_127 : decode cX9_who 127 = .ok (.iconst 0, 1) := by decide +kernel
theorem dX9_who_128 : decode cX9_who 128 = .ok (.iadd, 1) := by decide +kernel
theorem dX9_who_129 : decode cX9_who 129 = .ok (.istore 5, 2) := by decide +kernel
theorem dX9_who_131 : decode cX9_who 131 = .ok (.iinc 7 1, 3) := by decide +kernel
theorem dX9_who_134 : decode cX9_who 134 = .ok (.goto (-82), 3) := by decide +kernel
theorem dX9_who_137 : decode cX9_who 137 = .ok (.aload_n 0, 1) := by decide +kernel
theorem dX9_who_138 : decode cX9_who 138 = .ok (.getfield 22, 3) := by decide +kernel
theorem dX9_who_141 : decode cX9_who 141 = .ok (.iconst 1, 1) := by decide +kernel
theorem dX9_who_142 : decode cX9_who 142 = .ok (.iload 4, 2) := by decide +kernel
theorem dX9_who_144 : decode cX9_who 144 = .ok (.iastore, 1) := by decide +kernel
theorem dX9_who_145 : decode cX9_who 145 = .ok (.iload_n 2, 1) := by decide +kernel
theorem dX9_who_146 : decode cX9_who 146 = .ok (.ifCond .ne 8, 3) := by decide +kernel
theorem dX9_who_149 : decode cX9_who 149 = .ok (.iload 5, 2) := by decide +kernel
theorem dX9_who_151 : decode cX9_who 151 = .ok (.goto 5, 3) := by decide +kernel
theorem dX9_who_154 : decode cX9_who 154 = .ok (.iload 6, 2) := by decide +kernel
theorem dX9_who_156 : decode cX9_who 156 = .ok (.ireturn, 1) := by decide +kernel
theorem dX9_knees_0 : decode cX9_knees 0 = .ok (.aload_n 0, 1) := by decide +kernel
theorem dX9_knees_1 : decode cX9_knees 1 = .ok (.iload_n 1, 1) := by decide +kernel
theorem dX9_knees_2 : decode cX9_knees 2 = .ok (.invokevirtual 119, 3) := by decide +kernel
theorem dX9_knees_5 : decode cX9_knees 5 = .ok (.ifCond .eq 13, 3) := by decide +kernel
theorem dX9_knees_8 : decode cX9_knees 8 = .ok (.iload_n 2, 1) := by decide +kernel
theorem dX9_knees_9 : decode cX9_knees 9 = .ok (.iconst 1, 1) := by decide +kernel
theorem dX9_knees_10 : decode cX9_knees 10 = .ok (.bipush 40, 2) := by decide +kernel
theorem dX9_knees_12 : decode cX9_knees 12 = .ok (.invokestatic 52, 3) := by decide +kernel
theorem dX9_knees_15 : decode cX9_knees 15 = .ok (.ifCond .ne 5, 3) := by decide +kernel
theorem dX9_knees_18 : decode cX9_knees 18 = .ok (.iconst (-1), 1) := by decide +kernel
theorem dX9_knees_19 : decode cX9_knees 19 = .ok (.ireturn, 1) := by decide +kernel
theorem dX9_knees_20 : decode cX9_knees 20 = .ok (.aload_n 0, 1) := by decide +kernel
theorem dX9_knees_21 : decode cX9_knees 21 = .ok (.getfield 22, 3) := by decide +kernel
theorem dX9_knees_24 : decode cX9_knees 24 = .ok (.iconst 1, 1) := by decide +kernel
theorem dX9_knees_25 : decode cX9_knees 25 = .ok (.iaload, 1) := by decide +kernel
theorem dX9_knees_26 : decode cX9_knees 26 = .ok (.iload_n 1, 1) := by decide +kernel
theorem dX9_knees_27 : decode cX9_knees 27 = .ok (.invokestatic 94, 3) := by decide +kernel
theorem dX9_knees_30 : decode cX9_knees 30 = .ok (.ifCond .ne 6, 3) := by decide +kernel
theorem dX9_knees_33 : decode cX9_knees 33 = .ok (.bipush (-2), 2) := by decide +kernel
theorem dX9_knees_35 : decode cX9_knees 35 = .ok (.ireturn, 1) := by decide +kernel
theorem dX9_knees_36 : decode cX9_knees 36 = .ok (.aload_n 0, 1) := by decide +kernel
theorem dX9_knees_37 : decode cX9_knees 37 = .ok (.invokevirtual 146, 3) := by decide +kernel
theorem dX9_knees_40 : decode cX9_knees 40 = .ok (.aload_n 0, 1) := by decide +kernel
theorem dX9_knees_41 : decode cX9_knees 41 = .ok (.getfield 13, 3) := by decide +kernel
theorem dX9_knees_44 : decode cX9_knees 44 = .ok (.bipush 32, 2) := by decide +kernel
theorem dX9_knees_46 : decode cX9_knees 46 = .ok (.iload_n 1, 1) := by decide +kernel
theorem dX9_knees_47 : decode cX9_knees 47 = .ok (.iadd, 1) := by decide +kernel
theorem dX9_knees_48 : decode cX9_knees 48 = .ok (.iaload, 1) := by decide +kernel
theorem dX9_knees_49 : decode cX9_knees 49 = .ok (.istore_n 3, 1) := by decide +kernel
theorem dX9_knees_50 : decode cX9_knees 50 = .ok (.iconst 0, 1) := by decide +kernel
theorem dX9_knees_51 : decode cX9_knees 51 = .ok (.istore 4, 2) := by decide +kernel
theorem dX9_knees_53 : decode cX9_knees 53 = .ok (.iconst 1, 1) := by decide +kernel
theorem dX9_knees_54 : decode cX9_knees 54 = .ok (.istore 5, 2) := by decide +kernel
theorem dX9_knees_56 : decode cX9_knees 56 = .ok (.iload 5, 2) := by decide +kernel
theorem dX9_knees_58 : decode cX9_knees 58 = .ok (.bipush 31, 2) := by decide +kernel
theorem dX9_knees_60 : decode cX9_knees 60 = .ok (.if_icmp .ge 104, 3) := by decide +kernel
theorem dX9_knees_63 : decode cX9_knees 63 = .ok (.aload_n 0, 1) := by decide +kernel
theorem dX9_knees_64 : decode cX9_knees 64 = .ok (.getfield 13, 3) := by decide +kernel
theorem dX9_knees_67 : decode cX9_knees 67 = .ok (.bipush 32, 2) := by decide +kernel
theorem dX9_knees_69 : decode cX9_knees 69 = .ok (.iload_n 1, 1) := by decide +kernel
theorem dX9_knees_70 : decode cX9_knees 70 = .ok (.iadd, 1) := by decide +kernel
theorem dX9_knees_71 : decode cX9_knees 71 = .ok (.iload 5, 2) := by decide +kernel
theorem dX9_knees_73 : decode cX9_knees 73 = .ok (.iastore, 1) := by decide +kernel
theorem dX9_knees_74 : decode cX9_knees 74 = .ok (.iconst 0, 1) := by decide +kernel
theorem dX9_knees_75 : decode cX9_knees 75 = .ok (.istore 6, 2) := by decide +kernel
theorem dX9_knees_77 : decode cX9_knees 77 = .ok (.iload 6, 2) := by decide +kernel
theorem dX9_knees_79 : decode cX9_knees 79 = .ok (.iload_n 2, 1) := by decide +kernel
theorem dX9_knees_80 : decode cX9_knees 80 = .ok (.if_icmp .ge 26, 3) := by decide +kernel
theorem dX9_knees_83 : decode cX9_knees 83 = .ok (.aload_n 0, 1) := by decide +kernel
theorem dX9_knees_84 : decode cX9_knees 84 = .ok (.getfield 22, 3) := by decide +kernel
theorem dX9_knees_87 : decode cX9_knees 87 = .ok (.iconst 1, 1) := by decide +kernel
theorem dX9_knees_88 : decode cX9_knees 88 = .ok (.iaload, 1) := by decide +kernel
theorem dX9_knees_89 : decode cX9_knees 89 = .ok (.iload_n 1, 1) := by decide +kernel
theorem dX9_knees_90 : decode cX9_knees 90 = .ok (.invokestatic 94, 3) := by decide +kernel
theorem dX9_knees_93 : decode cX9_knees 93 = .ok (.ifCond .eq 13, 3) := by decide +kernel
theorem dX9_knees_96 : decode cX9_knees 96 = .ok (.aload_n 0, 1) := by decide +kernel
theorem dX9_knees_97 : decode cX9_knees 97 = .ok (.invokevirtual 134, 3) := by decide +kernel
theorem dX9_knees_100 : decode cX9_knees 100 = .ok (.iinc 6 1, 3) := by decide +kernel
theorem dX9_knees_103 : decode cX9_knees 103 = .ok (.goto (-26), 3) := by decide +kernel
theorem dX9_knees_106 : decode cX9_knees 106 = .ok (.iload 4, 2) := by decide +kernel
theorem dX9_knees_108 : decode cX9_knees 108 = .ok (.iload 6, 2) := by decide +kernel
theorem dX9_knees_110 : decode cX9_knees 110 = .ok (.iload_n 2, 1) := by decide +kernel
theorem dX9_knees_111 : decode cX9_knees 111 = .ok (.if_icmp .ne 39, 3) := by decide +kernel
theorem dX9_knees_114 : decode cX9_knees 114 = .ok (.aload_n 0, 1) := by decide +kernel
theorem dX9_knees_115 : decode cX9_knees 115 = .ok (.getfield 22, 3) := by decide +kernel
theorem dX9_knees_118 : decode cX9_knees 118 = .ok (.iconst 1, 1) := by decide +kernel
theorem dX9_knees_119 : decode cX9_knees 119 = .ok (.iaload, 1) := by decide +kernel
theorem dX9_knees_120 : decode cX9_knees 120 = .ok (.iload_n 1, 1) := by decide +kernel
theorem dX9_knees_121 : decode cX9_knees 121 = .ok (.invokestatic 94, 3) := by decide +kernel
theorem dX9_knees_124 : decode cX9_knees 124 = .ok (.ifCond .ne 26, 3) := by decide +kernel
theorem dX9_knees_127 : decode cX9_knees 127 = .ok (.aload_n 0, 1) := by decide +kernel
theorem dX9_knees_128 : decode cX9_knees 128 = .ok (.aload_n 0, 1) := by decide +kernel
theorem dX9_knees_129 : decode cX9_knees 129 = .ok (.getfield 22, 3) := by decide +kernel
theorem dX9_knees_132 : decode cX9_knees 132 = .ok (.bipush 9, 2) := by decide +kernel
theorem dX9_knees_134 : decode cX9_knees 134 = .ok (.iload_n 1, 1) := by decide +kernel
theorem dX9_knees_135 : decode cX9_knees 135 = .ok (.iadd, 1) := by decide +kernel
theorem dX9_knees_136 : decode cX9_knees 136 = .ok (.iaload, 1) := by decide +kernel
theorem dX9_knees_137 : decode cX9_knees 137 = .ok (.invokevirtual 98, 3) := by decide +kernel
theorem dX9_knees_140 : decode cX9_knees 140 = .ok (.ifCond .ne 10, 3) := by decide +kernel
theorem dX9_knees_143 : decode cX9_knees 143 = .ok (.iconst 1, 1) := by decide +kernel
theorem dX9_knees_144 : decode cX9_knees 144 = .ok (.iload 5, 2) := by decide +kernel
theorem dX9_knees_146 : decode cX9_knees 146 = .ok (.ishl, 1) := by decide +kernel
theorem dX9_knees_147 : decode cX9_knees 147 = .ok (.goto 4, 3) := by decide +kernel
theorem dX9_knees_150 : decode cX9_knees 150 = .ok (.iconst 0, 1) := by decide +kernel
theorem dX9_knees_151 : decode cX9_knees 151 = .ok (.ior, 1) := by decide +kernel
theorem dX9_knees_152 : decode cX9_knees 152 = .ok (.istore 4, 2) := by decide +kernel
theorem dX9_knees_154 : decode cX9_knees 154 = .ok (.aload_n 0, 1) := by decide +kernel
theorem dX9_knees_155 : decode cX9_knees 155 = .ok (.invokevirtual 152, 3) := by decide +kernel
theorem dX9_knees_158 : decode cX9_knees 158 = .ok (.iinc 5 1, 3) := by decide +kernel
theorem dX9_knees_161 : decode cX9_knees 161 = .ok (.goto (-105), 3) := by decide +kernel
theorem dX9_knees_164 : decode cX9_knees 164 = .ok (.aload_n 0, 1) := by decide +kernel
theorem dX9_knees_165 : decode cX9_knees 165 = .ok (.getfield 13, 3) := by decide +kernel
theorem dX9_knees_168 : decode cX9_knees 168 = .ok (.bipush 32, 2) := by decide +kernel
theorem dX9_knees_170 : decode cX9_knees 170 = .ok (.iload_n 1, 1) := by decide +kernel
theorem dX9_knees_171 : decode cX9_knees 171 = .ok (.iadd, 1) := by decide +kernel
theorem dX9_knees_172 : decode cX9_knees 172 = .ok (.iload_n 3, 1) := by decide +kernel
theorem dX9_knees_173 : decode cX9_knees 173 = .ok (.iastore, 1) := by decide +kernel
theorem dX9_knees_174 : decode cX9_knees 174 = .ok (.iload 4, 2) := by decide +kernel
theorem dX9_knees_176 : decode cX9_knees 176 = .ok (.ireturn, 1) := by decide +kernel
theorem dX9_shirkers_0 : decode cX9_shirkers 0 = .ok (.iload_n 1, 1) := by decide +kernel
theorem dX9_shirkers_1 : decode cX9_shirkers 1 = .ok (.iconst 0, 1) := by decide +kernel
theorem dX9_shirkers_2 : decode cX9_shirkers 2 = .ok (.bipush 10, 2) := by decide +kernel
theorem dX9_shirkers_4 : decode cX9_shirkers 4 = .ok (.invokestatic 52, 3) := by decide +kernel
theorem dX9_shirkers_7 : decode cX9_shirkers 7 = .ok (.ifCond .eq 12, 3) := by decide +kernel
theorem dX9_shirkers_10 : decode cX9_shirkers 10 = .ok (.iload_n 2, 1) := by decide +kernel
theorem dX9_shirkers_11 : decode cX9_shirkers 11 = .ok (.iconst 0, 1) := by decide +kernel
theorem dX9_shirkers_12 : decode cX9_shirkers 12 = .ok (.iconst 1, 1) := by decide +kernel
theorem dX9_shirkers_13 : decode cX9_shirkers 13 = .ok (.invokestatic 52, 3) := by decide +kernel
theorem dX9_shirkers_16 : decode cX9_shirkers 16 = .ok (.ifCond .ne 5, 3) := by decide +kernel
theorem dX9_shirkers_19 : decode cX9_shirkers 19 = .ok (.iconst (-1), 1) := by decide +kernel
theorem dX9_shirkers_20 : decode cX9_shirkers 20 = .ok (.ireturn, 1) := by decide +kernel
theorem dX9_shirkers_21 : decode cX9_shirkers 21 = .ok (.aload_n 0, 1) := by decide +kernel
theorem dX9_shirkers_22 : decode cX9_shirkers 22 = .ok (.invokevirtual 146, 3) := by decide +kernel
theorem dX9_shirkers_25 : decode cX9_shirkers 25 = .ok (.aload_n 0, 1) := by decide +kernel
theorem dX9_shirkers_26 : decode cX9_shirkers 26 = .ok (.getfield 22, 3) := by decide +kernel
theorem dX9_shirkers_29 : decode cX9_shirkers 29 = .ok (.iconst 1, 1) := by decide +kernel
theorem dX9_shirkers_30 : decode cX9_shirkers 30 = .ok (.iaload, 1) := by decide +kernel
theorem dX9_shirkers_31 : decode cX9_shirkers 31 = .ok (.istore_n 3, 1) := by decide +kernel
theorem dX9_shirkers_32 : decode cX9_shirkers 32 = .ok (.iconst 0, 1) := by decide +kernel
theorem dX9_shirkers_33 : decode cX9_shirkers 33 = .ok (.istore 4, 2) := by decide +kernel
theorem dX9_shirkers_35 : decode cX9_shirkers 35 = .ok (.iconst 1, 1) := by decide +kernel
theorem dX9_shirkers_36 : decode cX9_shirkers 36 = .ok (.istore 5, 2) := by decide +kernel
theorem dX9_shirkers_38 : decode cX9_shirkers 38 = .ok (.iconst 0, 1) := by decide +kernel
theorem dX9_shirkers_39 : decode cX9_shirkers 39 = .ok (.istore 6, 2) := by decide +kernel
theorem dX9_shirkers_41 : decode cX9_shirkers 41 = .ok (.iload 6, 2) := by decide +kernel
theorem dX9_shirkers_43 : decode cX9_shirkers 43 = .ok (.iload_n 3, 1) := by decide +kernel
theorem dX9_shirkers_44 : decode cX9_shirkers 44 = .ok (.invokestatic 161, 3) := by decide +kernel
theorem dX9_shirkers_47 : decode cX9_shirkers 47 = .ok (.if_icmp .ge 16, 3) := by decide +kernel
theorem dX9_shirkers_50 : decode cX9_shirkers 50 = .ok (.iload 5, 2) := by decide +kernel
theorem dX9_shirkers_52 : decode cX9_shirkers 52 = .ok (.bipush 10, 2) := by decide +kernel
theorem dX9_shirkers_54 : decode cX9_shirkers 54 = .ok (.imul, 1) := by decide +kernel
theorem dX9_shirkers_55 : decode cX9_shirkers 55 = .ok (.istore 5, 2) := by decide +kernel
theorem dX9_shirkers_57 : decode cX9_shirkers 57 = .ok (.iinc 6 1, 3) := by decide +kernel
theorem dX9_shirkers_60 : decode cX9_shirkers 60 = .ok (.goto (-19), 3) := by decide +kernel
theorem dX9_shirkers_63 : decode cX9_shirkers 63 = .ok (.iconst 0, 1) := by decide +kernel
theorem dX9_shirkers_64 : decode cX9_shirkers 64 = .ok (.istore 6, 2) := by decide +kernel
theorem dX9_shirkers_66 : decode cX9_shirkers 66 = .ok (.iload 6, 2) := by decide +kernel
theorem dX9_shirkers_68 : decode cX9_shirkers 68 = .ok (.iconst 1, 1) := by decide +kernel
theorem dX9_shirkers_69 : decode cX9_shirkers 69 = .ok (.aload_n 0, 1) := by decide +kernel
theorem dX9_shirkers_70 : decode cX9_shirkers 70 = .ok (.getfield 13, 3) := by decide +kernel
theorem dX9_shirkers_73 : decode cX9_shirkers 73 = .ok (.iconst 1, 1) := by decide +kernel
theorem dX9_shirkers_74 : decode cX9_shirkers 74 = .ok (.iaload, 1) := by decide +kernel
theorem dX9_shirkers_75 : decode cX9_shirkers 75 = .ok (.ishl, 1) := by decide +kernel
theorem dX9_shirkers_76 : decode cX9_shirkers 76 = .ok (.if_icmp .ge 183, 3) := by decide +kernel
theorem dX9_shirkers_79 : decode cX9_shirkers 79 = .ok (.iload 6, 2) := by decide +kernel
theorem dX9_shirkers_81 : decode cX9_shirkers 81 = .ok (.iload_n 3, 1) := by decide +kernel
theorem dX9_shirkers_82 : decode cX9_shirkers 82 = .ok (.iconst (-1), 1) := by decide +kernel
theorem dX9_shirkers_83 : decode cX9_shirkers 83 = .ok (.ixor, 1) := by decide +kernel
theorem dX9_shirkers_84 : decode cX9_shirkers 84 = .ok (.iand, 1) := by decide +kernel
theorem dX9_shirkers_85 : decode cX9_shirkers 85 = .ok (.ifCond .ne 168, 3) := by decide +kernel
theorem dX9_shirkers_88 : decode cX9_shirkers 88 = .ok (.iconst 1, 1) := by decide +kernel
theorem dX9_shirkers_89 : decode cX9_shirkers 89 = .ok (.istore 7, 2) := by decide +kernel
theorem dX9_shirkers_91 : decode cX9_shirkers 91 = .ok (.iconst 0, 1) := by decide +kernel
theorem dX9_shirkers_92 : decode cX9_shirkers 92 = .ok (.istore 8, 2) := by decide +kernel
theorem dX9_shirkers_94 : decode cX9_shirkers 94 = .ok (.iload 8, 2) := by decide +kernel
theorem dX9_shirkers_96 : decode cX9_shirkers 96 = .ok (.aload_n 0, 1) := by decide +kernel
theorem dX9_shirkers_97 : decode cX9_shirkers 97 = .ok (.getfield 13, 3) := by decide +kernel
theorem dX9_shirkers_100 : decode cX9_shirkers 100 = .ok (.iconst 1, 1) := by decide +kernel
theorem dX9_shirkers_101 : decode cX9_shirkers 101 = .ok (.iaload, 1) := by decide +kernel
theorem dX9_shirkers_102 : decode cX9_shirkers 102 = .ok (.if_icmp .ge 45, 3) := by decide +kernel
theorem dX9_shirkers_105 : decode cX9_shirkers 105 = .ok (.iload 7, 2) := by decide +kernel
theorem dX9_shirkers_107 : decode cX9_shirkers 107 = .ok (.iload_n 3, 1) := by decide +kernel
theorem dX9_shirkers_108 : decode cX9_shirkers 108 = .ok (.iload 8, 2) := by decide +kernel
theorem dX9_shirkers_110 : decode cX9_shirkers 110 = .ok (.invokestatic 94, 3) := by decide +kernel
theorem dX9_shirkers_113 : decode cX9_shirkers 113 = .ok (.ifCond .ne 7, 3) := by decide +kernel
theorem dX9_shirkers_116 : decode cX9_shirkers 116 = .ok (.iconst 1, 1) := by decide +kernel
theorem dX9_shirkers_117 : decode cX9_shirkers 117 = .ok (.goto 21, 3) := by decide +kernel
theorem dX9_shirkers_120 : decode cX9_shirkers 120 = .ok (.iload 6, 2) := by decide +kernel
theorem dX9_shirkers_122 : decode cX9_shirkers 122 = .ok (.iload 8, 2) := by decide +kernel
theorem dX9_shirkers_124 : decode cX9_shirkers 124 = .ok (.invokestatic 94, 3) := by decide +kernel
theorem dX9_shirkers_127 : decode cX9_shirkers 127 = .ok (.ifCond .eq 7, 3) := by decide +kernel
theorem dX9_shirkers_130 : decode cX9_shirkers 130 = .ok (.iload_n 1, 1) := by decide +kernel
theorem dX9_shirkers_131 : decode cX9_shirkers 131 = .ok (.goto 7, 3) := by decide +kernel
theorem dX9_shirkers_134 : decode cX9_shirkers 134 = .ok (.bipush 10, 2) := by decide +kernel
theorem dX9_shirkers_136 : decode cX9_shirkers 136 = .ok (.iload_n 1, 1) := by decide +kernel
theorem dX9_shirkers_137 : decode cX9_shirkers 137 = .ok (.isub, 1) := by decide +kernel
theorem dX9_shirkers_138 : decode cX9_shirkers 138 = .ok (.imul, 1) := by decide +kernel
theorem dX9_shirkers_139 : decode cX9_shirkers 139 = .ok (.istore 7, 2) := by decide +kernel
theorem dX9_shirkers_141 : decode cX9_shirkers 141 = .ok (.iinc 8 1, 3) := by decide +kernel
theorem dX9_shirkers_144 : decode cX9_shirkers 144 = .ok (.goto (-50), 3) := by decide +kernel
theorem dX9_shirkers_147 : decode cX9_shirkers 147 = .ok (.aload_n 0, 1) := by decide +kernel
theorem dX9_shirkers_148 : decode cX9_shirkers 148 = .ok (.getfield 22, 3) := by decide +kernel
theorem dX9_shirkers_151 : decode cX9_shirkers 151 = .ok (.iconst 1, 1) := by decide +kernel
theorem dX9_shirkers_152 : decode cX9_shirkers 152 = .ok (.dup2, 1) := by decide +kernel
theorem dX9_shirkers_153 : decode cX9_shirkers 153 = .ok (.iaload, 1) := by decide +kernel
theorem dX9_shirkers_154 : decode cX9_shirkers 154 = .ok (.iload 6, 2) := by decide +kernel
theorem dX9_shirkers_156 : decode cX9_shirkers 156 = .ok (.iconst (-1), 1) := by decide +kernel
theorem dX9_shirkers_157 : decode cX9_shirkers 157 = .ok (.ixor, 1) := by decide +kernel
theorem dX9_shirkers_158 : decode cX9_shirkers 158 = .ok (.iand, 1) := by decide +kernel
theorem dX9_shirkers_159 : decode cX9_shirkers 159 = .ok (.iastore, 1) := by decide +kernel
theorem dX9_shirkers_160 : decode cX9_shirkers 160 = .ok (.aload_n 0, 1) := by decide +kernel
theorem dX9_shirkers_161 : decode cX9_shirkers 161 = .ok (.invokevirtual 134, 3) := by decide +kernel
theorem dX9_shirkers_164 : decode cX9_shirkers 164 = .ok (.iconst 0, 1) := by decide +kernel
theorem dX9_shirkers_165 : decode cX9_shirkers 165 = .ok (.istore 8, 2) := by decide +kernel
theorem dX9_shirkers_167 : decode cX9_shirkers 167 = .ok (.iload 8, 2) := by decide +kernel
theorem dX9_shirkers_169 : decode cX9_shirkers 169 = .ok (.aload_n 0, 1) := by decide +kernel
theorem dX9_shirkers_170 : decode cX9_shirkers 170 = .ok (.getfield 13, 3) := by decide +kernel
theorem dX9_shirkers_173 : decode cX9_shirkers 173 = .ok (.iconst 1, 1) := by decide +kernel
theorem dX9_shirkers_174 : decode cX9_shirkers 174 = .ok (.iaload, 1) := by decide +kernel
theorem dX9_shirkers_175 : decode cX9_shirkers 175 = .ok (.if_icmp .ge 25, 3) := by decide +kernel
theorem dX9_shirkers_178 : decode cX9_shirkers 178 = .ok (.iload 6, 2) := by decide +kernel
theorem dX9_shirkers_180 : decode cX9_shirkers 180 = .ok (.iload 8, 2) := by decide +kernel
theorem dX9_shirkers_182 : decode cX9_shirkers 182 = .ok (.invokestatic 94, 3) := by decide +kernel
theorem dX9_shirkers_185 : decode cX9_shirkers 185 = .ok (.ifCond .eq 9, 3) := by decide +kernel
theorem dX9_shirkers_188 : decode cX9_shirkers 188 = .ok (.aload_n 0, 1) := by decide +kernel
theorem dX9_shirkers_189 : decode cX9_shirkers 189 = .ok (.iload 8, 2) := by decide +kernel
theorem dX9_shirkers_191 : decode cX9_shirkers 191 = .ok (.invokevirtual 168, 3) := by decide +kernel
theorem dX9_shirkers_194 : decode cX9_shirkers 194 = .ok (.iinc 8 1, 3) := by decide +kernel
theorem dX9_shirkers_197 : decode cX9_shirkers 197 = .ok (.goto (-30), 3) := by decide +kernel
theorem dX9_shirkers_200 : decode cX9_shirkers 200 = .ok (.aload_n 0, 1) := by decide +kernel
theorem dX9_shirkers_201 : decode cX9_shirkers 201 = .ok (.getfield 22, 3) := by decide +kernel
theorem dX9_shirkers_204 : decode cX9_shirkers 204 = .ok (.iconst 2, 1) := by decide +kernel
theorem dX9_shirkers_205 : decode cX9_shirkers 205 = .ok (.iaload, 1) := by decide +kernel
theorem dX9_shirkers_206 : decode cX9_shirkers 206 = .ok (.aload_n 0, 1) := by decide +kernel
theorem dX9_shirkers_207 : decode cX9_shirkers 207 = .ok (.getfield 31, 3) := by decide +kernel
theorem dX9_shirkers_210 : decode cX9_shirkers 210 = .ok (.iconst 2, 1) := by decide +kernel
theorem dX9_shirkers_211 : decode cX9_shirkers 211 = .ok (.iaload, 1) := by decide +kernel
theorem dX9_shirkers_212 : decode cX9_shirkers 212 = .ok (.if_icmp .ne 18, 3) := by decide +kernel
theorem dX9_shirkers_215 : decode cX9_shirkers 215 = .ok (.aload_n 0, 1) := by decide +kernel
theorem dX9_shirkers_216 : decode cX9_shirkers 216 = .ok (.bipush 11, 2) := by decide +kernel
theorem dX9_shirkers_218 : decode cX9_shirkers 218 = .ok (.invokevirtual 149, 3) := by decide +kernel
theorem dX9_shirkers_221 : decode cX9_shirkers 221 = .ok (.bipush 11, 2) := by decide +kernel
theorem dX9_shirkers_223 : decode cX9_shirkers 223 = .ok (.if_icmp .le 7, 3) := by decide +kernel
theorem dX9_shirkers_226 : decode cX9_shirkers 226 = .ok (.iconst 1, 1) := by decide +kernel
theorem dX9_shirkers_227 : decode cX9_shirkers 227 = .ok (.goto 4, 3) := by decide +kernel
theorem dX9_shirkers_230 : decode cX9_shirkers 230 = .ok (.iconst 0, 1) := by decide +kernel
theorem dX9_shirkers_231 : decode cX9_shirkers 231 = .ok (.istore 8, 2) := by decide +kernel
theorem dX9_shirkers_233 : decode cX9_shirkers 233 = .ok (.iload 4, 2) := by decide +kernel
theorem dX9_shirkers_235 : decode cX9_shirkers 235 = .ok (.iload 8, 2) := by decide +kernel
theorem dX9_shirkers_237 : decode cX9_shirkers 237 = .ok (.ifCond .eq 8, 3) := by decide +kernel
theorem dX9_shirkers_240 : decode cX9_shirkers 240 = .ok (.iload 7, 2) := by decide +kernel
theorem dX9_shirkers_242 : decode cX9_shirkers 242 = .ok (.goto 4, 3) := by decide +kernel
theorem dX9_shirkers_245 : decode cX9_shirkers 245 = .ok (.iconst 0, 1) := by decide +kernel
theorem dX9_shirkers_246 : decode cX9_shirkers 246 = .ok (.iadd, 1) := by decide +kernel
theorem dX9_shirkers_247 : decode cX9_shirkers 247 = .ok (.istore 4, 2) := by decide +kernel
theorem dX9_shirkers_249 : decode cX9_shirkers 249 = .ok (.aload_n 0, 1) := by decide +kernel
theorem dX9_shirkers_250 : decode cX9_shirkers 250 = .ok (.invokevirtual 152, 3) := by decide +kernel
theorem dX9_shirkers_253 : decode cX9_shirkers 253 = .ok (.iinc 6 1, 3) := by decide +kernel
theorem dX9_shirkers_256 : decode cX9_shirkers 256 = .ok (.goto (-190), 3) := by decide +kernel
theorem dX9_shirkers_259 : decode cX9_shirkers 259 = .ok (.iload 4, 2) := by decide +kernel
theorem dX9_shirkers_261 : decode cX9_shirkers 261 = .ok (.istore 6, 2) := by decide +kernel
theorem dX9_shirkers_263 : decode cX9_shirkers 263 = .ok (.iload 5, 2) := by decide +kernel
theorem dX9_shirkers_265 : decode cX9_shirkers 265 = .ok (.istore 7, 2) := by decide +kernel
theorem dX9_shirkers_267 : decode cX9_shirkers 267 = .ok (.iload 7, 2) := by decide +kernel
theorem dX9_shirkers_269 : decode cX9_shirkers 269 = .ok (.ifCond .le 21, 3) := by decide +kernel
theorem dX9_shirkers_272 : decode cX9_shirkers 272 = .ok (.iload 6, 2) := by decide +kernel
theorem dX9_shirkers_274 : decode cX9_shirkers 274 = .ok (.iload 7, 2) := by decide +kernel
theorem dX9_shirkers_276 : decode cX9_shirkers 276 = .ok (.irem, 1) := by decide +kernel
theorem dX9_shirkers_277 : decode cX9_shirkers 277 = .ok (.istore 8, 2) := by decide +kernel
theorem dX9_shirkers_279 : decode cX9_shirkers 279 = .ok (.iload 7, 2) := by decide +kernel
theorem dX9_shirkers_281 : decode cX9_shirkers 281 = .ok (.istore 6, 2) := by decide +kernel
theorem dX9_shirkers_283 : decode cX9_shirkers 283 = .ok (.iload 8, 2) := by decide +kernel
theorem dX9_shirkers_285 : decode cX9_shirkers 285 = .ok (.istore 7, 2) := by decide +kernel
theorem dX9_shirkers_287 : decode cX9_shirkers 287 = .ok (.goto (-20), 3) := by decide +kernel
theorem dX9_shirkers_290 : decode cX9_shirkers 290 = .ok (.iload_n 2, 1) := by decide +kernel
theorem dX9_shirkers_291 : decode cX9_shirkers 291 = .ok (.ifCond .ne 11, 3) := by decide +kernel
theorem dX9_shirkers_294 : decode cX9_shirkers 294 = .ok (.iload 4, 2) := by decide +kernel
theorem dX9_shirkers_296 : decode cX9_shirkers 296 = .ok (.iload 6, 2) := by decide +kernel
theorem dX9_shirkers_298 : decode cX9_shirkers 298 = .ok (.idiv, 1) := by decide +kernel
theorem dX9_shirkers_299 : decode cX9_shirkers 299 = .ok (.goto 8, 3) := by decide +kernel
theorem dX9_shirkers_302 : decode cX9_shirkers 302 = .ok (.iload 5, 2) := by decide +kernel
theorem dX9_shirkers_304 : decode cX9_shirkers 304 = .ok (.iload 6, 2) := by decide +kernel
theorem dX9_shirkers_306 : decode cX9_shirkers 306 = .ok (.idiv, 1) := by decide +kernel
theorem dX9_shirkers_307 : decode cX9_shirkers 307 = .ok (.ireturn, 1) := by decide +kernel
theorem dX9_turn_0 : decode cX9_turn 0 = .ok (.iload_n 1, 1) := by decide +kernel
theorem dX9_turn_1 : decode cX9_turn 1 = .ok (.bipush 8, 2) := by decide +kernel
theorem dX9_turn_3 : decode cX9_turn 3 = .ok (.idiv, 1) := by decide +kernel
theorem dX9_turn_4 : decode cX9_turn 4 = .ok (.aload_n 0, 1) := by decide +kernel
theorem dX9_turn_5 : decode cX9_turn 5 = .ok (.getfield 13, 3) := by decide +kernel
theorem dX9_turn_8 : decode cX9_turn 8 = .ok (.iconst 1, 1) := by decide +kernel
theorem dX9_turn_9 : decode cX9_turn 9 = .ok (.iaload, 1) := by decide +kernel
theorem dX9_turn_10 : decode cX9_turn 10 = .ok (.irem, 1) := by decide +kernel
theorem dX9_turn_11 : decode cX9_turn 11 = .ok (.istore_n 2, 1) := by decide +kernel
theorem dX9_turn_12 : decode cX9_turn 12 = .ok (.iload_n 1, 1) := by decide +kernel
theorem dX9_turn_13 : decode cX9_turn 13 = .ok (.bipush 8, 2) := by decide +kernel
theorem dX9_turn_15 : decode cX9_turn 15 = .ok (.irem, 1) := by decide +kernel
theorem dX9_turn_16 : decode cX9_turn 16 = .ok (.istore_n 3, 1) := by decide +kernel
theorem dX9_turn_17 : decode cX9_turn 17 = .ok (.iload_n 3, 1) := by decide +kernel
theorem dX9_turn_18 : decode cX9_turn 18 = .ok (.ifCond .ne 28, 3) := by decide +kernel
theorem dX9_turn_21 : decode cX9_turn 21 = .ok (.aload_n 0, 1) := by decide +kernel
theorem dX9_turn_22 : decode cX9_turn 22 = .ok (.iload_n 2, 1) := by decide +kernel
theorem dX9_turn_23 : decode cX9_turn 23 = .ok (.invokevirtual 140, 3) := by decide +kernel
theorem dX9_turn_26 : decode cX9_turn 26 = .ok (.ifCond .eq 20, 3) := by decide +kernel
theorem dX9_turn_29 : decode cX9_turn 29 = .ok (.aload_n 0, 1) := by decide +kernel
theorem dX9_turn_30 : decode cX9_turn 30 = .ok (.getfield 22, 3) := by decide +kernel
theorem dX9_turn_33 : decode cX9_turn 33 = .ok (.iconst 1, 1) := by decide +kernel
theorem dX9_turn_34 : decode cX9_turn 34 = .ok (.dup2, 1) := by decide +kernel
theorem dX9_turn_35 : decode cX9_turn 35 = .ok (.iaload, 1) := by decide +kernel
theorem dX9_turn_36 : decode cX9_turn 36 = .ok (.iconst 1, 1) := by decide +kernel
theorem dX9_turn_37 : decode cX9_turn 37 = .ok (.iload_n 2, 1) := by decide +kernel
theorem dX9_turn_38 : decode cX9_turn 38 = .ok (.ishl, 1) := by decide +kernel
theorem dX9_turn_39 : decode cX9_turn 39 = .ok (.iconst (-1), 1) := by decide +kernel
theorem dX9_turn_40 : decode cX9_turn 40 = .ok (.ixor, 1) := by decide +kernel
theorem dX9_turn_41 : decode cX9_turn 41 = .ok (.iand, 1) := by decide +kernel
theorem dX9_turn_42 : decode cX9_turn 42 = .ok (.iastore, 1) := by decide +kernel
theorem dX9_turn_43 : decode cX9_turn 43 = .ok (.goto 73, 3) := by decide +kernel
theorem dX9_turn_46 : decode cX9_turn 46 = .ok (.iload_n 3, 1) := by decide +kernel
theorem dX9_turn_47 : decode cX9_turn 47 = .ok (.iconst 1, 1) := by decide +kernel
theorem dX9_turn_48 : decode cX9_turn 48 = .ok (.iconst 2, 1) := by decide +kernel
theorem dX9_turn_49 : decode cX9_turn 49 = .ok (.invokestatic 52, 3) := by decide +kernel
theorem dX9_turn_52 : decode cX9_turn 52 = .ok (.ifCond .eq 26, 3) := by decide +kernel
theorem dX9_turn_55 : decode cX9_turn 55 = .ok (.aload_n 0, 1) := by decide +kernel
theorem dX9_turn_56 : decode cX9_turn 56 = .ok (.iload_n 2, 1) := by decide +kernel
theorem dX9_turn_57 : decode cX9_turn 57 = .ok (.invokevirtual 143, 3) := by decide +kernel
theorem dX9_turn_60 : decode cX9_turn 60 = .ok (.ifCond .eq 18, 3) := by decide +kernel
theorem dX9_turn_63 : decode cX9_turn 63 = .ok (.aload_n 0, 1) := by decide +kernel
theorem dX9_turn_64 : decode cX9_turn 64 = .ok (.getfield 22, 3) := by decide +kernel
theorem dX9_turn_67 : decode cX9_turn 67 = .ok (.iconst 1, 1) := by decide +kernel
theorem dX9_turn_68 : decode cX9_turn 68 = .ok (.dup2, 1) := by decide +kernel
theorem dX9_turn_69 : decode cX9_turn 69 = .ok (.iaload, 1) := by decide +kernel
theorem dX9_turn_70 : decode cX9_turn 70 = .ok (.iconst 1, 1) := by decide +kernel
theorem dX9_turn_71 : decode cX9_turn 71 = .ok (.iload_n 2, 1) := by decide +kernel
theorem dX9_turn_72 : decode cX9_turn 72 = .ok (.ishl, 1) := by decide +kernel
theorem dX9_turn_73 : decode cX9_turn 73 = .ok (.ior, 1) := by decide +kernel
theorem dX9_turn_74 : decode cX9_turn 74 = .ok (.iastore, 1) := by decide +kernel
theorem dX9_turn_75 : decode cX9_turn 75 = .ok (.goto 41, 3) := by decide +kernel
theorem dX9_turn_78 : decode cX9_turn 78 = .ok (.iload_n 3, 1) := by decide +kernel
theorem dX9_turn_79 : decode cX9_turn 79 = .ok (.iconst 3, 1) := by decide +kernel
theorem dX9_turn_80 : decode cX9_turn 80 = .ok (.if_icmp .ne 36, 3) := by decide +kernel
theorem dX9_turn_83 : decode cX9_turn 83 = .ok (.aload_n 0, 1) := by decide +kernel
theorem dX9_turn_84 : decode cX9_turn 84 = .ok (.getfield 22, 3) := by decide +kernel
theorem dX9_turn_87 : decode cX9_turn 87 = .ok (.iconst 1, 1) := by decide +kernel
theorem dX9_turn_88 : decode cX9_turn 88 = .ok (.iaload, 1) := by decide +kernel
theorem dX9_turn_89 : decode cX9_turn 89 = .ok (.iload_n 2, 1) := by decide +kernel
theorem dX9_turn_90 : decode cX9_turn 90 = .ok (.invokestatic 94, 3) := by decide +kernel
theorem dX9_turn_93 : decode cX9_turn 93 = .ok (.ifCond .ne 23, 3) := by decide +kernel
theorem dX9_turn_96 : decode cX9_turn 96 = .ok (.aload_n 0, 1) := by decide +kernel
theorem dX9_turn_97 : decode cX9_turn 97 = .ok (.getfield 22, 3) := by decide +kernel
theorem dX9_turn_100 : decode cX9_turn 100 = .ok (.bipush 9, 2) := by decide +kernel
theorem dX9_turn_102 : decode cX9_turn 102 = .ok (.iload_n 2, 1) := by decide +kernel
theorem dX9_turn_103 : decode cX9_turn 103 = .ok (.iadd, 1) := by decide +kernel
theorem dX9_turn_104 : decode cX9_turn 104 = .ok (.iload_n 1, 1) := by decide +kernel
theorem dX9_turn_105 : decode cX9_turn 105 = .ok (.bipush 64, 2) := by decide +kernel
theorem dX9_turn_107 : decode cX9_turn 107 = .ok (.idiv, 1) := by decide +kernel
theorem dX9_turn_108 : decode cX9_turn 108 = .ok (.aload_n 0, 1) := by decide +kernel
theorem dX9_turn_109 : decode cX9_turn 109 = .ok (.getfield 13, 3) := by decide +kernel
theorem dX9_turn_112 : decode cX9_turn 112 = .ok (.iconst 0, 1) := by decide +kernel
theorem dX9_turn_113 : decode cX9_turn 113 = .ok (.iaload, 1) := by decide +kernel
theorem dX9_turn_114 : decode cX9_turn 114 = .ok (.irem, 1) := by decide +kernel
theorem dX9_turn_115 : decode cX9_turn 115 = .ok (.iastore, 1) := by decide +kernel
theorem dX9_turn_116 : decode cX9_turn 116 = .ok (.return_, 1) := by decide +kernel
theorem dX9_night_0 : decode cX9_night 0 = .ok (.iload_n 1, 1) := by decide +kernel
theorem dX9_night_1 : decode cX9_night 1 = .ok (.iconst 0, 1) := by decide +kernel
theorem dX9_night_2 : decode cX9_night 2 = .ok (.sipush 9999, 3) := by decide +kernel
theorem dX9_night_5 : decode cX9_night 5 = .ok (.invokestatic 52, 3) := by decide +kernel
theorem dX9_night_8 : decode cX9_night 8 = .ok (.ifCond .eq 22, 3) := by decide +kernel
theorem dX9_night_11 : decode cX9_night 11 = .ok (.iload_n 2, 1) := by decide +kernel
theorem dX9_night_12 : decode cX9_night 12 = .ok (.iconst 1, 1) := by decide +kernel
theorem dX9_night_13 : decode cX9_night 13 = .ok (.bipush 60, 2) := by decide +kernel
theorem dX9_night_15 : decode cX9_night 15 = .ok (.invokestatic 52, 3) := by decide +kernel
theorem dX9_night_18 : decode cX9_night 18 = .ok (.ifCond .eq 12, 3) := by decide +kernel
theorem dX9_night_21 : decode cX9_night 21 = .ok (.iload_n 3, 1) := by decide +kernel
theorem dX9_night_22 : decode cX9_night 22 = .ok (.iconst 0, 1) := by decide +kernel
theorem dX9_night_23 : decode cX9_night 23 = .ok (.iconst 1, 1) := by decide +kernel
theorem dX9_night_24 : decode cX9_night 24 = .ok (.invokestatic 52, 3) := by decide +kernel
theorem dX9_night_27 : decode cX9_night 27 = .ok (.ifCond .ne 5, 3) := by decide +kernel
theorem dX9_night_30 : decode cX9_night 30 = .ok (.iconst (-1), 1) := by decide +kernel
theorem dX9_night_31 : decode cX9_night 31 = .ok (.ireturn, 1) := by decide +kernel
theorem dX9_night_32 : decode cX9_night 32 = .ok (.aload_n 0, 1) := by decide +kernel
theorem dX9_night_33 : decode cX9_night 33 = .ok (.invokevirtual 146, 3) := by decide +kernel
theorem dX9_night_36 : decode cX9_night 36 = .ok (.iconst 0, 1) := by decide +kernel
theorem dX9_night_37 : decode cX9_night 37 = .ok (.istore 4, 2) := by decide +kernel
theorem dX9_night_39 : decode cX9_night 39 = .ok (.iload 4, 2) := by decide +kernel
theorem dX9_night_41 : decode cX9_night 41 = .ok (.iload_n 2, 1) := by decide +kernel
theorem dX9_night_42 : decode cX9_night 42 = .ok (.if_icmp .ge 54, 3) := by decide +kernel
theorem dX9_night_45 : decode cX9_night 45 = .ok (.ldc2_w 175, 3) := by decide +kernel
theorem dX9_night_48 : decode cX9_night 48 = .ok (.iload_n 1, 1) := by decide +kernel
theorem dX9_night_49 : decode cX9_night 49 = .ok (.i2l, 1) := by decide +kernel
theorem dX9_night_50 : decode cX9_night 50 = .ok (.lmul, 1) := by decide +kernel
theorem dX9_night_51 : decode cX9_night 51 = .ok (.ldc2_w 177, 3) := by decide +kernel
theorem dX9_night_54 : decode cX9_night 54 = .ok (.iload 4, 2) := by decide +kernel
theorem dX9_night_56 : decode cX9_night 56 = .ok (.i2l, 1) := by decide +kernel
theorem dX9_night_57 : decode cX9_night 57 = .ok (.lmul, 1) := by decide +kernel
theorem dX9_night_58 : decode cX9_night 58 = .ok (.ladd, 1) := by decide +kernel
theorem dX9_night_59 : decode cX9_night 59 = .ok (.lconst 1, 1) := by decide +kernel
theorem dX9_night_60 : decode cX9_night 60 = .ok (.ladd, 1) := by decide +kernel
theorem dX9_night_61 : decode cX9_night 61 = .ok (.lstore 5, 2) := by decide +kernel
theorem dX9_night_63 : decode cX9_night 63 = .ok (.aload_n 0, 1) := by decide +kernel
theorem dX9_night_64 : decode cX9_night 64 = .ok (.getfield 13, 3) := by decide +kernel
theorem dX9_night_67 : decode cX9_night 67 = .ok (.iconst 1, 1) := by decide +kernel
theorem dX9_night_68 : decode cX9_night 68 = .ok (.iaload, 1) := by decide +kernel
theorem dX9_night_69 : decode cX9_night 69 = .ok (.ifCond .le 17, 3) := by decide +kernel
theorem dX9_night_72 : decode cX9_night 72 = .ok (.aload_n 0, 1) := by decide +kernel
theorem dX9_night_73 : decode cX9_night 73 = .ok (.lload 5, 2) := by decide +kernel
theorem dX9_night_75 : decode cX9_night 75 = .ok (.lload 5, 2) := by decide +kernel
theorem dX9_night_77 : decode cX9_night 77 = .ok (.lmul, 1) := by decide +kernel
theorem dX9_night_78 : decode cX9_night 78 = .ok (.ldc2_w 179, 3) := by decide +kernel
theorem dX9_night_81 : decode cX9_night 81 = .ok (.lrem, 1) := by decide +kernel
theorem dX9_night_82 : decode cX9_night 82 = .ok (.l2i, 1) := by decide +kernel
theorem dX9_night_83 : decode cX9_night 83 = .ok (.invokevirtual 181, 3) := by decide +kernel
theorem dX9_night_86 : decode cX9_night 86 = .ok (.aload_n 0, 1) := by decide +kernel
theorem dX9_night_87 : decode cX9_night 87 = .ok (.invokevirtual 134, 3) := by decide +kernel
theorem dX9_night_90 : decode cX9_night 90 = .ok (.iinc 4 1, 3) := by decide +kernel
theorem dX9_night_93 : decode cX9_night 93 = .ok (.goto (-54), 3) := by decide +kernel
theorem dX9_night_96 : decode cX9_night 96 = .ok (.iload_n 3, 1) := by decide +kernel
theorem dX9_night_97 : decode cX9_night 97 = .ok (.ifCond .ne 12, 3) := by decide +kernel
theorem dX9_night_100 : decode cX9_night 100 = .ok (.aload_n 0, 1) := by decide +kernel
theorem dX9_night_101 : decode cX9_night 101 = .ok (.getfield 22, 3) := by decide +kernel
theorem dX9_night_104 : decode cX9_night 104 = .ok (.iconst 2, 1) := by decide +kernel
theorem dX9_night_105 : decode cX9_night 105 = .ok (.iaload, 1) := by decide +kernel
theorem dX9_night_106 : decode cX9_night 106 = .ok (.goto 9, 3) := by decide +kernel
theorem dX9_night_109 : decode cX9_night 109 = .ok (.aload_n 0, 1) := by decide +kernel
theorem dX9_night_110 : decode cX9_night 110 = .ok (.getfield 22, 3) := by decide +kernel
theorem dX9_night_113 : decode cX9_night 113 = .ok (.iconst 1, 1) := by decide +kernel
theorem dX9_night_114 : decode cX9_night 114 = .ok (.iaload, 1) := by decide +kernel
theorem dX9_night_115 : decode cX9_night 115 = .ok (.invokestatic 161, 3) := by decide +kernel
theorem dX9_night_118 : decode cX9_night 118 = .ok (.istore 4, 2) := by decide +kernel
theorem dX9_night_120 : decode cX9_night 120 = .ok (.aload_n 0, 1) := by decide +kernel
theorem dX9_night_121 : decode cX9_night 121 = .ok (.invokevirtual 152, 3) := by decide +kernel
theorem dX9_night_124 : decode cX9_night 124 = .ok (.iload 4, 2) := by decide +kernel
theorem dX9_night_126 : decode cX9_night 126 = .ok (.ireturn, 1) := by decide +kernel
theorem dX9_keep_0 : decode cX9_keep 0 = .ok (.aload_n 0, 1) := by decide +kernel
theorem dX9_keep_1 : decode cX9_keep 1 = .ok (.getfield 91, 3) := by decide +kernel
theorem dX9_keep_4 : decode cX9_keep 4 = .ok (.iconst 2, 1) := by decide +kernel
theorem dX9_keep_5 : decode cX9_keep 5 = .ok (.if_icmp .ne 6, 3) := by decide +kernel
theorem dX9_keep_8 : decode cX9_keep 8 = .ok (.bipush (-3), 2) := by decide +kernel
theorem dX9_keep_10 : decode cX9_keep 10 = .ok (.ireturn, 1) := by decide +kernel
theorem dX9_keep_11 : decode cX9_keep 11 = .ok (.iconst 0, 1) := by decide +kernel
theorem dX9_keep_12 : decode cX9_keep 12 = .ok (.istore_n 1, 1) := by decide +kernel
theorem dX9_keep_13 : decode cX9_keep 13 = .ok (.iload_n 1, 1) := by decide +kernel
theorem dX9_keep_14 : decode cX9_keep 14 = .ok (.bipush 23, 2) := by decide +kernel
theorem dX9_keep_16 : decode cX9_keep 16 = .ok (.if_icmp .ge 29, 3) := by decide +kernel
theorem dX9_keep_19 : decode cX9_keep 19 = .ok (.aload_n 0, 1) := by decide +kernel
theorem dX9_keep_20 : decode cX9_keep 20 = .ok (.getfield 28, 3) := by decide +kernel
theorem dX9_keep_23 : decode cX9_keep 23 = .ok (.bipush 23, 2) := by decide +kernel
theorem dX9_keep_25 : decode cX9_keep 25 = .ok (.aload_n 0, 1) := by decide +kernel
theorem dX9_keep_26 : decode cX9_keep 26 = .ok (.getfield 91, 3) := by decide +kernel
theorem dX9_keep_29 : decode cX9_keep 29 = .ok (.imul, 1) := by decide +kernel
theorem dX9_keep_30 : decode cX9_keep 30 = .ok (.iload_n 1, 1) := by decide +kernel
theorem dX9_keep_31 : decode cX9_keep 31 = .ok (.iadd, 1) := by decide +kernel
theorem dX9_keep_32 : decode cX9_keep 32 = .ok (.aload_n 0, 1) := by decide +kernel
theorem dX9_keep_33 : decode cX9_keep 33 = .ok (.getfield 22, 3) := by decide +kernel
theorem dX9_keep_36 : decode cX9_keep 36 = .ok (.iload_n 1, 1) := by decide +kernel
theorem dX9_keep_37 : decode cX9_keep 37 = .ok (.iaload, 1) := by decide +kernel
theorem dX9_keep_38 : decode cX9_keep 38 = .ok (.iastore, 1) := by decide +kernel
theorem dX9_keep_39 : decode cX9_keep 39 = .ok (.iinc 1 1, 3) := by decide +kernel
theorem dX9_keep_42 : decode cX9_keep 42 = .ok (.goto (-29), 3) := by decide +kernel
theorem dX9_keep_45 : decode cX9_keep 45 = .ok (.aload_n 0, 1) := by decide +kernel
theorem dX9_keep_46 : decode cX9_keep 46 = .ok (.dup, 1) := by decide +kernel
theorem dX9_keep_47 : decode cX9_keep 47 = .ok (.getfield 91, 3) := by decide +kernel
theorem dX9_keep_50 : decode cX9_keep 50 = .ok (.iconst 1, 1) := by decide +kernel
theorem dX9_keep_51 : decode cX9_keep 51 = .ok (.iadd, 1) := by decide +kernel
theorem dX9_keep_52 : decode cX9_keep 52 = .ok (.putfield 91, 3) := by decide +kernel
theorem dX9_keep_55 : decode cX9_keep 55 = .ok (.aload_n 0, 1) := by decide +kernel
theorem dX9_keep_56 : decode cX9_keep 56 = .ok (.getfield 91, 3) := by decide +kernel
theorem dX9_keep_59 : decode cX9_keep 59 = .ok (.ireturn, 1) := by decide +kernel
theorem dX9_back_0 : decode cX9_back 0 = .ok (.aload_n 0, 1) := by decide +kernel
theorem dX9_back_1 : decode cX9_back 1 = .ok (.getfield 91, 3) := by decide +kernel
theorem dX9_back_4 : decode cX9_back 4 = .ok (.ifCond .ne 6, 3) := by decide +kernel
theorem dX9_back_7 : decode cX9_back 7 = .ok (.bipush (-2), 2) := by decide +kernel
theorem dX9_back_9 : decode cX9_back 9 = .ok (.ireturn, 1) := by decide +kernel
theorem dX9_back_10 : decode cX9_back 10 = .ok (.aload_n 0, 1) := by decide +kernel
theorem dX9_back_11 : decode cX9_back 11 = .ok (.dup, 1) := by decide +kernel
theorem dX9_back_12 : decode cX9_back 12 = .ok (.getfield 91, 3) := by decide +kernel
theorem dX9_back_15 : decode cX9_back 15 = .ok (.iconst 1, 1) := by decide +kernel
theorem dX9_back_16 : decode cX9_back 16 = .ok (.isub, 1) := by decide +kernel
theorem dX9_back_17 : decode cX9_back 17 = .ok (.putfield 91, 3) := by decide +kernel
theorem dX9_back_20 : decode cX9_back 20 = .ok (.iconst 0, 1) := by decide +kernel
theorem dX9_back_21 : decode cX9_back 21 = .ok (.istore_n 1, 1) := by decide +kernel
theorem dX9_back_22 : decode cX9_back 22 = .ok (.iload_n 1, 1) := by decide +kernel
theorem dX9_back_23 : decode cX9_back 23 = .ok (.bipush 23, 2) := by decide +kernel
theorem dX9_back_25 : decode cX9_back 25 = .ok (.if_icmp .ge 29, 3) := by decide +kernel
theorem dX9_back_28 : decode cX9_back 28 = .ok (.aload_n 0, 1) := by decide +kernel
theorem dX9_back_29 : decode cX9_back 29 = .ok (.getfield 22, 3) := by decide +kernel
theorem dX9_back_32 : decode cX9_back 32 = .ok (.iload_n 1, 1) := by decide +kernel
theorem dX9_back_33 : decode cX9_back 33 = .ok (.aload_n 0, 1) := by decide +kernel
theorem dX9_back_34 : decode cX9_back 34 = .ok (.getfield 28, 3) := by decide +kernel
theorem dX9_back_37 : decode cX9_back 37 = .ok (.bipush 23, 2) := by decide +kernel
theorem dX9_back_39 : decode cX9_back 39 = .ok (.aload_n 0, 1) := by decide +kernel
theorem dX9_back_40 : decode cX9_back 40 = .ok (.getfield 91, 3) := by decide +kernel
theorem dX9_back_43 : decode cX9_back 43 = .ok (.imul, 1) := by decide +kernel
theorem dX9_back_44 : decode cX9_back 44 = .ok (.iload_n 1, 1) := by decide +kernel
theorem dX9_back_45 : decode cX9_back 45 = .ok (.iadd, 1) := by decide +kernel
theorem dX9_back_46 : decode cX9_back 46 = .ok (.iaload, 1) := by decide +kernel
theorem dX9_back_47 : decode cX9_back 47 = .ok (.iastore, 1) := by decide +kernel
theorem dX9_back_48 : decode cX9_back 48 = .ok (.iinc 1 1, 3) := by decide +kernel
theorem dX9_back_51 : decode cX9_back 51 = .ok (.goto (-29), 3) := by decide +kernel
theorem dX9_back_54 : decode cX9_back 54 = .ok (.aload_n 0, 1) := by decide +kernel
theorem dX9_back_55 : decode cX9_back 55 = .ok (.iconst 0, 1) := by decide +kernel
theorem dX9_back_56 : decode cX9_back 56 = .ok (.putfield 88, 3) := by decide +kernel
theorem dX9_back_59 : decode cX9_back 59 = .ok (.aload_n 0, 1) := by decide +kernel
theorem dX9_back_60 : decode cX9_back 60 = .ok (.getfield 91, 3) := by decide +kernel
theorem dX9_back_63 : decode cX9_back 63 = .ok (.ireturn, 1) := by decide +kernel
theorem dX9_count_0 : decode cX9_count 0 = .ok (.iload_n 1, 1) := by decide +kernel
theorem dX9_count_1 : decode cX9_count 1 = .ok (.tableswitch 115 0 8 #[51, 58, 65, 72, 82, 90, 100, 105, 110], 51) := by decide +kernel
theorem dX9_count_52 : decode cX9_count 52 = .ok (.aload_n 0, 1) := by decide +kernel
theorem dX9_count_53 : decode cX9_count 53 = .ok (.getfield 13, 3) := by decide +kernel
theorem dX9_count_56 : decode cX9_count 56 = .ok (.iconst 0, 1) := by decide +kernel
theorem dX9_count_57 : decode cX9_count 57 = .ok (.iaload, 1) := by decide +kernel
theorem dX9_count_58 : decode cX9_count 58 = .ok (.ireturn, 1) := by decide +kernel
theorem dX9_count_59 : decode cX9_count 59 = .ok (.aload_n 0, 1) := by decide +kernel
theorem dX9_count_60 : decode cX9_count 60 = .ok (.getfield 13, 3) := by decide +kernel
theorem dX9_count_63 : decode cX9_count 63 = .ok (.iconst 1, 1) := by decide +kernel
theorem dX9_count_64 : decode cX9_count 64 = .ok (.iaload, 1) := by decide +kernel
theorem dX9_count_65 : decode cX9_count 65 = .ok (.ireturn, 1) := by decide +kernel
theorem dX9_count_66 : decode cX9_count 66 = .ok (.aload_n 0, 1) := by decide +kernel
theorem dX9_count_67 : decode cX9_count 67 = .ok (.getfield 22, 3) := by decide +kernel
theorem dX9_count_70 : decode cX9_count 70 = .ok (.iconst 0, 1) := by decide +kernel
theorem dX9_count_71 : decode cX9_count 71 = .ok (.iaload, 1) := by decide +kernel
theorem dX9_count_72 : decode cX9_count 72 = .ok (.ireturn, 1) := by decide +kernel
theorem dX9_count_73 : decode cX9_count 73 = .ok (.aload_n 0, 1) := by decide +kernel
theorem dX9_count_74 : decode cX9_count 74 = .ok (.getfield 22, 3) := by decide +kernel
theorem dX9_count_77 : decode cX9_count 77 = .ok (.iconst 1, 1) := by decide +kernel
theorem dX9_count_78 : decode cX9_count 78 = .ok (.iaload, 1) := by decide +kernel
theorem dX9_count_79 : decode cX9_count 79 = .ok (.invokestatic 161, 3) := by decide +kernel
theorem dX9_count_82 : decode cX9_count 82 = .ok (.ireturn, 1) := by decide +kernel
theorem dX9_count_83 : decode cX9_count 83 = .ok (.aload_n 0, 1) := by decide +kernel
theorem dX9_count_84 : decode cX9_count 84 = .ok (.invokevirtual 125, 3) := by decide +kernel
theorem dX9_count_87 : decode cX9_count 87 = .ok (.invokestatic 161, 3) := by decide +kernel
theorem dX9_count_90 : decode cX9_count 90 = .ok (.ireturn, 1) := by decide +kernel
theorem dX9_count_91 : decode cX9_count 91 = .ok (.aload_n 0, 1) := by decide +kernel
theorem dX9_count_92 : decode cX9_count 92 = .ok (.getfield 22, 3) := by decide +kernel
theorem dX9_count_95 : decode cX9_count 95 = .ok (.iconst 2, 1) := by decide +kernel
theorem dX9_count_96 : decode cX9_count 96 = .ok (.iaload, 1) := by decide +kernel
theorem dX9_count_97 : decode cX9_count 97 = .ok (.invokestatic 161, 3) := by decide +kernel
theorem dX9_count_100 : decode cX9_count 100 = .ok (.ireturn, 1) := by decide +kernel
theorem dX9_count_101 : decode cX9_count 101 = .ok (.aload_n 0, 1) := by decide +kernel
theorem dX9_count_102 : decode cX9_count 102 = .ok (.getfield 88, 3) := by decide +kernel
theorem dX9_count_105 : decode cX9_count 105 = .ok (.ireturn, 1) := by decide +kernel
theorem dX9_count_106 : decode cX9_count 106 = .ok (.aload_n 0, 1) := by decide +kernel
theorem dX9_count_107 : decode cX9_count 107 = .ok (.getfield 91, 3) := by decide +kernel
theorem dX9_count_110 : decode cX9_count 110 = .ok (.ireturn, 1) := by decide +kernel
theorem dX9_count_111 : decode cX9_count 111 = .ok (.aload_n 0, 1) := by decide +kernel
theorem dX9_count_112 : decode cX9_count 112 = .ok (.getfield 56, 3) := by decide +kernel
theorem dX9_count_115 : decode cX9_count 115 = .ok (.ireturn, 1) := by decide +kernel
theorem dX9_count_116 : decode cX9_count 116 = .ok (.iconst (-1), 1) := by decide +kernel
theorem dX9_count_117 : decode cX9_count 117 = .ok (.ireturn, 1) := by decide +kernel
end
section
theorem dL_law_0 : decode cL_law 0 = .ok (.new 7, 3) := by decide +kernel
theorem dL_law_3 : decode cL_law 3 = .ok (.dup, 1) := by decide +kernel
theorem dL_law_4 : decode cL_law 4 = .ok (.invokespecial 9, 3) := by decide +kernel
theorem dL_law_7 : decode cL_law 7 = .ok (.astore_n 1, 1) := by decide +kernel
theorem dL_law_8 : decode cL_law 8 = .ok (.new 10, 3) := by decide +kernel
theorem dL_law_11 : decode cL_law 11 = .ok (.dup, 1) := by decide +kernel
theorem dL_law_12 : decode cL_law 12 = .ok (.invokespecial 12, 3) := by decide +kernel
theorem dL_law_15 : decode cL_law 15 = .ok (.astore_n 2, 1) := by decide +kernel
theorem dL_law_16 : decode cL_law 16 = .ok (.iconst 0, 1) := by decide +kernel
theorem dL_law_17 : decode cL_law 17 = .ok (.istore_n 3, 1) := by decide +kernel
theorem dL_law_18 : decode cL_law 18 = .ok (.iload_n 3, 1) := by decide +kernel
theorem dL_law_19 : decode cL_law 19 = .ok (.aload_n 0, 1) := by decide +kernel
theorem dL_law_20 : decode cL_law 20 = .ok (.arraylength, 1) := by decide +kernel
theorem dL_law_21 : decode cL_law 21 = .ok (.iconst 4, 1) := by decide +kernel
theorem dL_law_22 : decode cL_law 22 = .ok (.isub, 1) := by decide +kernel
theorem dL_law_23 : decode cL_law 23 = .ok (.if_icmp .gt 716, 3) := by decide +kernel
theorem dL_law_26 : decode cL_law 26 = .ok (.aload_n 0, 1) := by decide +kernel
theorem dL_law_27 : decode cL_law 27 = .ok (.iload_n 3, 1) := by decide +kernel
theorem dL_law_28 : decode cL_law 28 = .ok (.iaload, 1) := by decide +kernel
theorem dL_law_29 : decode cL_law 29 = .ok (.bipush 31, 2) := by decide +kernel
theorem dL_law_31 : decode cL_law 31 = .ok (.iand, 1) := by decide +kernel
theorem dL_law_32 : decode cL_law 32 = .ok (.tableswitch 701 0 24 #[116, 139, 152, 165, 178, 211, 244, 267, 290, 313, 336, 369, 382, 405, 418, 431, 464, 487, 510, 543, 576, 609, 652, 665, 678], 116) := by decide +kernel
theorem dL_law_148 : decode cL_law 148 = .ok (.aload_n 1, 1) := by decide +kernel
theorem dL_law_149 : decode cL_law 149 = .ok (.aload_n 0, 1) := by decide +kernel
theorem dL_law_150 : decode cL_law 150 = .ok (.iload_n 3, 1) := by decide +kernel
theorem dL_law_151 : decode cL_law 151 = .ok (.iconst 1, 1) := by decide +kernel
theorem dL_law_152 : decode cL_law 152 = .ok (.iadd, 1) := by decide +kernel
theorem dL_law_153 : decode cL_law 153 = .ok (.iaload, 1) := by decide +kernel
theorem dL_law_154 : decode cL_law 154 = .ok (.invokevirtual 13, 3) := by decide +kernel
theorem dL_law_157 : decode cL_law 157 = .ok (.aload_n 2, 1) := by decide +kernel
theorem dL_law_158 : decode cL_law 158 = .ok (.aload_n 0, 1) := by decide +kernel
theorem dL_law_159 : decode cL_law 159 = .ok (.iload_n 3, 1) := by decide +kernel
theorem dL_law_160 : decode cL_law 160 = .ok (.iconst 1, 1) := by decide +kernel
theorem dL_law_161 : decode cL_law 161 = .ok (.iadd, 1) := by decide +kernel
theorem dL_law_162 : decode cL_law 162 = .ok (.iaload, 1) := by decide +kernel
theorem dL_law_163 : decode cL_law 163 = .ok (.invokevirtual 17, 3) := by decide +kernel
theorem dL_law_166 : decode cL_law 166 = .ok (.if_icmp .eq 567, 3) := by decide +kernel
theorem dL_law_169 : decode cL_law 169 = .ok (.iconst 0, 1) := by decide +kernel
theorem dL_law_170 : decode cL_law 170 = .ok (.ireturn, 1) := by decide +kernel
theorem dL_law_171 : decode cL_law 171 = .ok (.aload_n 1, 1) := by decide +kernel
theorem dL_law_172 : decode cL_law 172 = .ok (.invokevirtual 18, 3) := by decide +kernel
theorem dL_law_175 : decode cL_law 175 = .ok (.aload_n 2, 1) := by decide +kernel
theorem dL_law_176 : decode cL_law 176 = .ok (.invokevirtual 22, 3) := by decide +kernel
theorem dL_law_179 : decode cL_law 179 = .ok (.if_icmp .eq 554, 3) := by decide +kernel
theorem dL_law_182 : decode cL_law 182 = .ok (.iconst 0, 1) := by decide +kernel
theorem dL_law_183 : decode cL_law 183 = .ok (.ireturn, 1) := by decide +kernel
theorem dL_law_184 : decode cL_law 184 = .ok (.aload_n 1, 1) := by decide +kernel
theorem dL_law_185 : decode cL_law 185 = .ok (.invokevirtual 23, 3) := by decide +kernel
theorem dL_law_188 : decode cL_law 188 = .ok (.aload_n 2, 1) := by decide +kernel
theorem dL_law_189 : decode cL_law 189 = .ok (.invokevirtual 26, 3) := by decide +kernel
theorem dL_law_192 : decode cL_law 192 = .ok (.if_icmp .eq 541, 3) := by decide +kernel
theorem dL_law_195 : decode cL_law 195 = .ok (.iconst 0, 1) := by decide +kernel
theorem dL_law_196 : decode cL_law 196 = .ok (.ireturn, 1) := by decide +kernel
theorem dL_law_197 : decode cL_law 197 = .ok (.aload_n 1, 1) := by decide +kernel
theorem dL_law_198 : decode cL_law 198 = .ok (.invokevirtual 27, 3) := by decide +kernel
theorem dL_law_201 : decode cL_law 201 = .ok (.aload_n 2, 1) := by decide +kernel
theorem dL_law_202 : decode cL_law 202 = .ok (.invokevirtual 30, 3) := by decide +kernel
theorem dL_law_205 : decode cL_law 205 = .ok (.if_icmp .eq 528, 3) := by decide +kernel
theorem dL_law_208 : decode cL_law 208 = .ok (.iconst 0, 1) := by decide +kernel
theorem dL_law_209 : decode cL_law 209 = .ok (.ireturn, 1) := by decide +kernel
theorem dL_law_210 : decode cL_law 210 = .ok (.aload_n 1, 1) := by decide +kernel
theorem dL_law_211 : decode cL_law 211 = .ok (.aload_n 0, 1) := by decide +kernel
theorem dL_law_212 : decode cL_law 212 = .ok (.iload_n 3, 1) := by decide +kernel
theorem dL_law_213 : decode cL_law 213 = .ok (.iconst 1, 1) := by decide +kernel
theorem dL_law_214 : decode cL_law 214 = .ok (.iadd, 1) := by decide +kernel
theorem dL_law_215 : decode cL_law 215 = .ok (.iaload, 1) := by decide +kernel
theorem dL_law_216 : decode cL_law 216 = .ok (.aload_n 0, 1) := by decide +kernel
theorem dL_law_217 : decode cL_law 217 = .ok (.iload_n 3, 1) := by decide +kernel
theorem dL_law_218 : decode cL_law 218 = .ok (.iconst 2, 1) := by decide +kernel
theorem dL_law_219 : decode cL_law 219 = .ok (.iadd, 1) := by decide +kernel
theorem dL_law_220 : decode cL_law 220 = .ok (.iaload, 1) := by decide +kernel
theorem dL_law_221 : decode cL_law 221 = .ok (.invokevirtual 31, 3) := by decide +kernel
theorem dL_law_224 : decode cL_law 224 = .ok (.aload_n 2, 1) := by decide +kernel
theorem dL_law_225 : decode cL_law 225 = .ok (.aload_n 0, 1) := by decide +kernel
theorem dL_law_226 : decode cL_law 226 = .ok (.iload_n 3, 1) := by decide +kernel
theorem dL_law_227 : decode cL_law 227 = .ok (.iconst 1, 1) := by decide +kernel
theorem dL_law_228 : decode cL_law 228 = .ok (.iadd, 1) := by decide +kernel
theorem dL_law_229 : decode cL_law 229 = .ok (.iaload, 1) := by decide +kernel
theorem dL_law_230 : decode cL_law 230 = .ok (.aload_n 0, 1) := by decide +kernel
theorem dL_law_231 : decode cL_law 231 = .ok (.iload_n 3, 1) := by decide +kernel
theorem dL_law_232 : decode cL_law 232 = .ok (.iconst 2, 1) := by decide +kernel
theorem dL_law_233 : decode cL_law 233 = .ok (.iadd, 1) := by decide +kernel
theorem dL_law_234 : decode cL_law 234 = .ok (.iaload, 1) := by decide +kernel
theorem dL_law_235 : decode cL_law 235 = .ok (.invokevirtual 35, 3) := by decide +kernel
theorem dL_law_238 : decode cL_law 238 = .ok (.if_icmp .eq 495, 3) := by decide +kernel
theorem dL_law_241 : decode cL_law 241 = .ok (.iconst 0, 1) := by decide +kernel
theorem dL_law_242 : decode cL_law 242 = .ok (.ireturn, 1) := by decide +kernel
theorem dL_law_243 : decode cL_law 243 = .ok (.aload_n 1, 1) := by decide +kernel
theorem dL_law_244 : decode cL_law 244 = .ok (.aload_n 0, 1) := by decide +kernel
theorem dL_law_245 : decode cL_law 245 = .ok (.iload_n 3, 1) := by decide +kernel
theorem dL_law_246 : decode cL_law 246 = .ok (.iconst 1, 1) := by decide +kernel
theorem dL_law_247 : decode cL_law 247 = .ok (.iadd, 1) := by decide +kernel
theorem dL_law_248 : decode cL_law 248 = .ok (.iaload, 1) := by decide +kernel
theorem dL_law_249 : decode cL_law 249 = .ok (.aload_n 0, 1) := by decide +kernel
theorem dL_law_250 : decode cL_law 250 = .ok (.iload_n 3, 1) := by decide +kernel
theorem dL_law_251 : decode cL_law 251 = .ok (.iconst 2, 1) := by decide +kernel
theorem dL_law_252 : decode cL_law 252 = .ok (.iadd, 1) := by decide +kernel
theorem dL_law_253 : decode cL_law 253 = .ok (.iaload, 1) := by decide +kernel
theorem dL_law_254 : decode cL_law 254 = .ok (.invokevirtual 36, 3) := by decide +kernel
theorem dL_law_257 : decode cL_law 257 = .ok (.aload_n 2, 1) := by decide +kernel
theorem dL_law_258 : decode cL_law 258 = .ok (.aload_n 0, 1) := by decide +kernel
theorem dL_law_259 : decode cL_law 259 = .ok (.iload_n 3, 1) := by decide +kernel
theorem dL_law_260 : decode cL_law 260 = .ok (.iconst 1, 1) := by decide +kernel
theorem dL_law_261 : decode cL_law 261 = .ok (.iadd, 1) := by decide +kernel
theorem dL_law_262 : decode cL_law 262 = .ok (.iaload, 1) := by decide +kernel
theorem dL_law_263 : decode cL_law 263 = .ok (.aload_n 0, 1) := by decide +kernel
theorem dL_law_264 : decode cL_law 264 = .ok (.iload_n 3, 1) := by decide +kernel
theorem dL_law_265 : decode cL_law 265 = .ok (.iconst 2, 1) := by decide +kernel
theorem dL_law_266 : decode cL_law 266 = .ok (.iadd, 1) := by decide +kernel
theorem dL_law_267 : decode cL_law 267 = .ok (.iaload, 1) := by decide +kernel
theorem dL_law_268 : decode cL_law 268 = .ok (.invokevirtual 39, 3) := by decide +kernel
theorem dL_law_271 : decode cL_law 271 = .ok (.if_icmp .eq 462, 3) := by decide +kernel
theorem dL_law_274 : decode cL_law 274 = .ok (.iconst 0, 1) := by decide +kernel
theorem dL_law_275 : decode cL_law 275 = .ok (.ireturn, 1) := by decide +kernel
theorem dL_law_276 : decode cL_law 276 = .ok (.aload_n 1, 1) := by decide +kernel
theorem dL_law_277 : decode cL_law 277 = .ok (.aload_n 0, 1) := by decide +kernel
theorem dL_law_278 : decode cL_law 278 = .ok (.iload_n 3, 1) := by decide +kernel
theorem dL_law_279 : decode cL_law 279 = .ok (.iconst 1, 1) := by decide +kernel
theorem dL_law_280 : decode cL_law 280 = .ok (.iadd, 1) := by decide +kernel
theorem dL_law_281 : decode cL_law 281 = .ok (.iaload, 1) := by decide +kernel
theorem dL_law_282 : decode cL_law 282 = .ok (.invokevirtual 40, 3) := by decide +kernel
theorem dL_law_285 : decode cL_law 285 = .ok (.aload_n 2, 1) := by decide +kernel
theorem dL_law_286 : decode cL_law 286 = .ok (.aload_n 0, 1) := by decide +kernel
theorem dL_law_287 : decode cL_law 287 = .ok (.iload_n 3, 1) := by decide +kernel
theorem dL_law_288 : decode cL_law 288 = .ok (.iconst 1, 1) := by decide +kernel
theorem dL_law_289 : decode cL_law 289 = .ok (.iadd, 1) := by decide +kernel
theorem dL_law_290 : decode cL_law 290 = .ok (.iaload, 1) := by decide +kernel
theorem dL_law_291 : decode cL_law 291 = .ok (.invokevirtual 43, 3) := by decide +kernel
theorem dL_law_294 : decode cL_law 294 = .ok (.if_icmp .eq 439, 3) := by decide +kernel
theorem dL_law_297 : decode cL_law 297 = .ok (.iconst 0, 1) := by decide +kernel
theorem dL_law_298 : decode cL_law 298 = .ok (.ireturn, 1) := by decide +kernel
theorem dL_law_299 : decode cL_law 299 = .ok (.aload_n 1, 1) := by decide +kernel
theorem dL_law_300 : decode cL_law 300 = .ok (.aload_n 0, 1) := by decide +kernel
theorem dL_law_301 : decode cL_law 301 = .ok (.iload_n 3, 1) := by decide +kernel
theorem dL_law_302 : decode cL_law 302 = .ok (.iconst 1, 1) := by decide +kernel
theorem dL_law_303 : decode cL_law 303 = .ok (.iadd, 1) := by decide +kernel
theorem dL_law_304 : decode cL_law 304 = .ok (.iaload, 1) := by decide +kernel
theorem dL_law_305 : decode cL_law 305 = .ok (.invokevirtual 44, 3) := by decide +kernel
theorem dL_law_308 : decode cL_law 308 = .ok (.aload_n 2, 1) := by decide +kernel
theorem dL_law_309 : decode cL_law 309 = .ok (.aload_n 0, 1) := by decide +kernel
theorem dL_law_310 : decode cL_law 310 = .ok (.iload_n 3, 1) := by decide +kernel
theorem dL_law_311 : decode cL_law 311 = .ok (.iconst 1, 1) := by decide +kernel
theorem dL_law_312 : decode cL_law 312 = .ok (.iadd, 1) := by decide +kernel
theorem dL_law_313 : decode cL_law 313 = .ok (.iaload, 1) := by decide +kernel
theorem dL_law_314 : decode cL_law 314 = .ok (.invokevirtual 47, 3) := by decide +kernel
theorem dL_law_317 : decode cL_law 317 = .ok (.if_icmp .eq 416, 3) := by decide +kernel
theorem dL_law_320 : decode cL_law 320 = .ok (.iconst 0, 1) := by decide +kernel
theorem dL_law_321 : decode cL_law 321 = .ok (.ireturn, 1) := by decide +kernel
theorem dL_law_322 : decode cL_law 322 = .ok (.aload_n 1, 1) := by decide +kernel
theorem dL_law_323 : decode cL_law 323 = .ok (.aload_n 0, 1) := by decide +kernel
theorem dL_law_324 : decode cL_law 324 = .ok (.iload_n 3, 1) := by decide +kernel
theorem dL_law_325 : decode cL_law 325 = .ok (.iconst 1, 1) := by decide +kernel
theorem dL_law_326 : decode cL_law 326 = .ok (.iadd, 1) := by decide +kernel
theorem dL_law_327 : decode cL_law 327 = .ok (.iaload, 1) := by decide +kernel
theorem dL_law_328 : decode cL_law 328 = .ok (.invokevirtual 48, 3) := by decide +kernel
theorem dL_law_331 : decode cL_law 331 = .ok (.aload_n 2, 1) := by decide +kernel
theorem dL_law_332 : decode cL_law 332 = .ok (.aload_n 0, 1) := by decide +kernel
theorem dL_law_333 : decode cL_law 333 = .ok (.iload_n 3, 1) := by decide +kernel
theorem dL_law_334 : decode cL_law 334 = .ok (.iconst 1, 1) := by decide +kernel
theorem dL_law_335 : decode cL_law 335 = .ok (.iadd, 1) := by decide +kernel
theorem dL_law_336 : decode cL_law 336 = .ok (.iaload, 1) := by decide +kernel
theorem dL_law_337 : decode cL_law 337 = .ok (.invokevirtual 51, 3) := by decide +kernel
theorem dL_law_340 : decode cL_law 340 = .ok (.if_icmp .eq 393, 3) := by decide +kernel
theorem dL_law_343 : decode cL_law 343 = .ok (.iconst 0, 1) := by decide +kernel
theorem dL_law_344 : decode cL_law 344 = .ok (.ireturn, 1) := by decide +kernel
theorem dL_law_345 : decode cL_law 345 = .ok (.aload_n 1, 1) := by decide +kernel
theorem dL_law_346 : decode cL_law 346 = .ok (.aload_n 0, 1) := by decide +kernel
theorem dL_law_347 : decode cL_law 347 = .ok (.iload_n 3, 1) := by decide +kernel
theorem dL_law_348 : decode cL_law 348 = .ok (.iconst 1, 1) := by decide +kernel
theorem dL_law_349 : decode cL_law 349 = .ok (.iadd, 1) := by decide +kernel
theorem dL_law_350 : decode cL_law 350 = .ok (.iaload, 1) := by decide +kernel
theorem dL_law_351 : decode cL_law 351 = .ok (.invokevirtual 52, 3) := by decide +kernel
theorem dL_law_354 : decode cL_law 354 = .ok (.aload_n 2, 1) := by decide +kernel
theorem dL_law_355 : decode cL_law 355 = .ok (.aload_n 0, 1) := by decide +kernel
theorem dL_law_356 : decode cL_law 356 = .ok (.iload_n 3, 1) := by decide +kernel
theorem dL_law_357 : decode cL_law 357 = .ok (.iconst 1, 1) := by decide +kernel
theorem dL_law_358 : decode cL_law 358 = .ok (.iadd, 1) := by decide +kernel
theorem dL_law_359 : decode cL_law 359 = .ok (.iaload, 1) := by decide +kernel
theorem dL_law_360 : decode cL_law 360 = .ok (.invokevirtual 55, 3) := by decide +kernel
theorem dL_law_363 : decode cL_law 363 = .ok (.if_icmp .eq 370, 3) := by decide +kernel
theorem dL_law_366 : decode cL_law 366 = .ok (.iconst 0, 1) := by decide +kernel
theorem dL_law_367 : decode cL_law 367 = .ok (.ireturn, 1) := by decide +kernel
theorem dL_law_368 : decode cL_law 368 = .ok (.aload_n 1, 1) := by decide +kernel
theorem dL_law_369 : decode cL_law 369 = .ok (.aload_n 0, 1) := by decide +kernel
theorem dL_law_370 : decode cL_law 370 = .ok (.iload_n 3, 1) := by decide +kernel
theorem dL_law_371 : decode cL_law 371 = .ok (.iconst 1, 1) := by decide +kernel
theorem dL_law_372 : decode cL_law 372 = .ok (.iadd, 1) := by decide +kernel
theorem dL_law_373 : decode cL_law 373 = .ok (.iaload, 1) := by decide +kernel
theorem dL_law_374 : decode cL_law 374 = .ok (.aload_n 0, 1) := by decide +kernel
theorem dL_law_375 : decode cL_law 375 = .ok (.iload_n 3, 1) := by decide +kernel
theorem dL_law_376 : decode cL_law 376 = .ok (.iconst 2, 1) := by decide +kernel
theorem dL_law_377 : decode cL_law 377 = .ok (.iadd, 1) := by decide +kernel
theorem dL_law_378 : decode cL_law 378 = .ok (.iaload, 1) := by decide +kernel
theorem dL_law_379 : decode cL_law 379 = .ok (.invokevirtual 56, 3) := by decide +kernel
theorem dL_law_382 : decode cL_law 382 = .ok (.aload_n 2, 1) := by decide +kernel
theorem dL_law_383 : decode cL_law 383 = .ok (.aload_n 0, 1) := by decide +kernel
theorem dL_law_384 : decode cL_law 384 = .ok (.iload_n 3, 1) := by decide +kernel
theorem dL_law_385 : decode cL_law 385 = .ok (.iconst 1, 1) := by decide +kernel
theorem dL_law_386 : decode cL_law 386 = .ok (.iadd, 1) := by decide +kernel
theorem dL_law_387 : decode cL_law 387 = .ok (.iaload, 1) := by decide +kernel
theorem dL_law_388 : decode cL_law 388 = .ok (.aload_n 0, 1) := by decide +kernel
theorem dL_law_389 : decode cL_law 389 = .ok (.iload_n 3, 1) := by decide +kernel
theorem dL_law_390 : decode cL_law 390 = .ok (.iconst 2, 1) := by decide +kernel
theorem dL_law_391 : decode cL_law 391 = .ok (.iadd, 1) := by decide +kernel
theorem dL_law_392 : decode cL_law 392 = .ok (.iaload, 1) := by decide +kernel
theorem dL_law_393 : decode cL_law 393 = .ok (.invokevirtual 59, 3) := by decide +kernel
theorem dL_law_396 : decode cL_law 396 = .ok (.if_icmp .eq 337, 3) := by decide +kernel
theorem dL_law_399 : decode cL_law 399 = .ok (.iconst 0, 1) := by decide +kernel
theorem dL_law_400 : decode cL_law 400 = .ok (.ireturn, 1) := by decide +kernel
theorem dL_law_401 : decode cL_law 401 = .ok (.aload_n 1, 1) := by decide +kernel
theorem dL_law_402 : decode cL_law 402 = .ok (.invokevirtual 60, 3) := by decide +kernel
theorem dL_law_405 : decode cL_law 405 = .ok (.aload_n 2, 1) := by decide +kernel
theorem dL_law_406 : decode cL_law 406 = .ok (.invokevirtual 63, 3) := by decide +kernel
theorem dL_law_409 : decode cL_law 409 = .ok (.if_icmp .eq 324, 3) := by decide +kernel
theorem dL_law_412 : decode cL_law 412 = .ok (.iconst 0, 1) := by decide +kernel
theorem dL_law_413 : decode cL_law 413 = .ok (.ireturn, 1) := by decide +kernel
theorem dL_law_414 : decode cL_law 414 = .ok (.aload_n 1, 1) := by decide +kernel
theorem dL_law_415 : decode cL_law 415 = .ok (.aload_n 0, 1) := by decide +kernel
theorem dL_law_416 : decode cL_law 416 = .ok (.iload_n 3, 1) := by decide +kernel
theorem dL_law_417 : decode cL_law 417 = .ok (.iconst 1, 1) := by decide +kernel
theorem dL_law_418 : decode cL_law 418 = .ok (.iadd, 1) := by decide +kernel
theorem dL_law_419 : decode cL_law 419 = .ok (.iaload, 1) := by decide +kernel
theorem dL_law_420 : decode cL_law 420 = .ok (.invokevirtual 64, 3) := by decide +kernel
theorem dL_law_423 : decode cL_law 423 = .ok (.aload_n 2, 1) := by decide +kernel
theorem dL_law_424 : decode cL_law 424 = .ok (.aload_n 0, 1) := by decide +kernel
theorem dL_law_425 : decode cL_law 425 = .ok (.iload_n 3, 1) := by decide +kernel
theorem dL_law_426 : decode cL_law 426 = .ok (.iconst 1, 1) := by decide +kernel
theorem dL_law_427 : decode cL_law 427 = .ok (.iadd, 1) := by decide +kernel
theorem dL_law_428 : decode cL_law 428 = .ok (.iaload, 1) := by decide +kernel
theorem dL_law_429 : decode cL_law 429 = .ok (.invokevirtual 67, 3) := by decide +kernel
theorem dL_law_432 : decode cL_law 432 = .ok (.if_icmp .eq 301, 3) := by decide +kernel
theorem dL_law_435 : decode cL_law 435 = .ok (.iconst 0, 1) := by decide +kernel
theorem dL_law_436 : decode cL_law 436 = .ok (.ireturn, 1) := by decide +kernel
theorem dL_law_437 : decode cL_law 437 = .ok (.aload_n 1, 1) := by decide +kernel
theorem dL_law_438 : decode cL_law 438 = .ok (.invokevirtual 68, 3) := by decide +kernel
theorem dL_law_441 : decode cL_law 441 = .ok (.aload_n 2, 1) := by decide +kernel
theorem dL_law_442 : decode cL_law 442 = .ok (.invokevirtual 71, 3) := by decide +kernel
theorem dL_law_445 : decode cL_law 445 = .ok (.if_icmp .eq 288, 3) := by decide +kernel
theorem dL_law_448 : decode cL_law 448 = .ok (.iconst 0, 1) := by decide +kernel
theorem dL_law_449 : decode cL_law 449 = .ok (.ireturn, 1) := by decide +kernel
theorem dL_law_450 : decode cL_law 450 = .ok (.aload_n 1, 1) := by decide +kernel
theorem dL_law_451 : decode cL_law 451 = .ok (.invokevirtual 72, 3) := by decide +kernel
theorem dL_law_454 : decode cL_law 454 = .ok (.aload_n 2, 1) := by decide +kernel
theorem dL_law_455 : decode cL_law 455 = .ok (.invokevirtual 75, 3) := by decide +kernel
theorem dL_law_458 : decode cL_law 458 = .ok (.if_icmp .eq 275, 3) := by decide +kernel
theorem dL_law_461 : decode cL_law 461 = .ok (.iconst 0, 1) := by decide +kernel
theorem dL_law_462 : decode cL_law 462 = .ok (.ireturn, 1) := by decide +kernel
theorem dL_law_463 : decode cL_law 463 = .ok (.aload_n 1, 1) := by decide +kernel
theorem dL_law_464 : decode cL_law 464 = .ok (.aload_n 0, 1) := by decide +kernel
theorem dL_law_465 : decode cL_law 465 = .ok (.iload_n 3, 1) := by decide +kernel
theorem dL_law_466 : decode cL_law 466 = .ok (.iconst 1, 1) := by decide +kernel
theorem dL_law_467 : decode cL_law 467 = .ok (.iadd, 1) := by decide +kernel
theorem dL_law_468 : decode cL_law 468 = .ok (.iaload, 1) := by decide +kernel
theorem dL_law_469 : decode cL_law 469 = .ok (.aload_n 0, 1) := by decide +kernel
theorem dL_law_470 : decode cL_law 470 = .ok (.iload_n 3, 1) := by decide +kernel
theorem dL_law_471 : decode cL_law 471 = .ok (.iconst 2, 1) := by decide +kernel
theorem dL_law_472 : decode cL_law 472 = .ok (.iadd, 1) := by decide +kernel
theorem dL_law_473 : decode cL_law 473 = .ok (.iaload, 1) := by decide +kernel
theorem dL_law_474 : decode cL_law 474 = .ok (.invokevirtual 76, 3) := by decide +kernel
theorem dL_law_477 : decode cL_law 477 = .ok (.aload_n 2, 1) := by decide +kernel
theorem dL_law_478 : decode cL_law 478 = .ok (.aload_n 0, 1) := by decide +kernel
theorem dL_law_479 : decode cL_law 479 = .ok (.iload_n 3, 1) := by decide +kernel
theorem dL_law_480 : decode cL_law 480 = .ok (.iconst 1, 1) := by decide +kernel
theorem dL_law_481 : decode cL_law 481 = .ok (.iadd, 1) := by decide +kernel
theorem dL_law_482 : decode cL_law 482 = .ok (.iaload, 1) := by decide +kernel
theorem dL_law_483 : decode cL_law 483 = .ok (.aload_n 0, 1) := by decide +kernel
theorem dL_law_484 : decode cL_law 484 = .ok (.iload_n 3, 1) := by decide +kernel
theorem dL_law_485 : decode cL_law 485 = .ok (.iconst 2, 1) := by decide +kernel
theorem dL_law_486 : decode cL_law 486 = .ok (.iadd, 1) := by decide +kernel
theorem dL_law_487 : decode cL_law 487 = .ok (.iaload, 1) := by decide +kernel
theorem dL_law_488 : decode cL_law 488 = .ok (.invokevirtual 79, 3) := by decide +kernel
theorem dL_law_491 : decode cL_law 491 = .ok (.if_icmp .eq 242, 3) := by decide +kernel
theorem dL_law_494 : decode cL_law 494 = .ok (.iconst 0, 1) := by decide +kernel
theorem dL_law_495 : decode cL_law 495 = .ok (.ireturn, 1) := by decide +kernel
theorem dL_law_496 : decode cL_law 496 = .ok (.aload_n 1, 1) := by decide +kernel
theorem dL_law_497 : decode cL_law 497 = .ok (.aload_n 0, 1) := by decide +kernel
theorem dL_law_498 : decode cL_law 498 = .ok (.iload_n 3, 1) := by decide +kernel
theorem dL_law_499 : decode cL_law 499 = .ok (.iconst 1, 1) := by decide +kernel
theorem dL_law_500 : decode cL_law 500 = .ok (.iadd, 1) := by decide +kernel
theorem dL_law_501 : decode cL_law 501 = .ok (.iaload, 1) := by decide +kernel
theorem dL_law_502 : decode cL_law 502 = .ok (.invokevirtual 80, 3) := by decide +kernel
theorem dL_law_505 : decode cL_law 505 = .ok (.aload_n 2, 1) := by decide +kernel
theorem dL_law_506 : decode cL_law 506 = .ok (.aload_n 0, 1) := by decide +kernel
theorem dL_law_507 : decode cL_law 507 = .ok (.iload_n 3, 1) := by decide +kernel
theorem dL_law_508 : decode cL_law 508 = .ok (.iconst 1, 1) := by decide +kernel
theorem dL_law_509 : decode cL_law 509 = .ok (.iadd, 1) := by decide +kernel
theorem dL_law_510 : decode cL_law 510 = .ok (.iaload, 1) := by decide +kernel
theorem dL_law_511 : decode cL_law 511 = .ok (.invokevirtual 83, 3) := by decide +kernel
theorem dL_law_514 : decode cL_law 514 = .ok (.if_icmp .eq 219, 3) := by decide +kernel
theorem dL_law_517 : decode cL_law 517 = .ok (.iconst 0, 1) := by decide +kernel
theorem dL_law_518 : decode cL_law 518 = .ok (.ireturn, 1) := by decide +kernel
theorem dL_law_519 : decode cL_law 519 = .ok (.aload_n 1, 1) := by decide +kernel
theorem dL_law_520 : decode cL_law 520 = .ok (.aload_n 0, 1) := by decide +kernel
theorem dL_law_521 : decode cL_law 521 = .ok (.iload_n 3, 1) := by decide +kernel
theorem dL_law_522 : decode cL_law 522 = .ok (.iconst 1, 1) := by decide +kernel
theorem dL_law_523 : decode cL_law 523 = .ok (.iadd, 1) := by decide +kernel
theorem dL_law_524 : decode cL_law 524 = .ok (.iaload, 1) := by decide +kernel
theorem dL_law_525 : decode cL_law 525 = .ok (.invokevirtual 84, 3) := by decide +kernel
theorem dL_law_528 : decode cL_law 528 = .ok (.aload_n 2, 1) := by decide +kernel
theorem dL_law_529 : decode cL_law 529 = .ok (.aload_n 0, 1) := by decide +kernel
theorem dL_law_530 : decode cL_law 530 = .ok (.iload_n 3, 1) := by decide +kernel
theorem dL_law_531 : decode cL_law 531 = .ok (.iconst 1, 1) := by decide +kernel
theorem dL_law_532 : decode cL_law 532 = .ok (.iadd, 1) := by decide +kernel
theorem dL_law_533 : decode cL_law 533 = .ok (.iaload, 1) := by decide +kernel
theorem dL_law_534 : decode cL_law 534 = .ok (.invokevirtual 87, 3) := by decide +kernel
theorem dL_law_537 : decode cL_law 537 = .ok (.if_icmp .eq 196, 3) := by decide +kernel
theorem dL_law_540 : decode cL_law 540 = .ok (.iconst 0, 1) := by decide +kernel
theorem dL_law_541 : decode cL_law 541 = .ok (.ireturn, 1) := by decide +kernel
theorem dL_law_542 : decode cL_law 542 = .ok (.aload_n 1, 1) := by decide +kernel
theorem dL_law_543 : decode cL_law 543 = .ok (.aload_n 0, 1) := by decide +kernel
theorem dL_law_544 : decode cL_law 544 = .ok (.iload_n 3, 1) := by decide +kernel
theorem dL_law_545 : decode cL_law 545 = .ok (.iconst 1, 1) := by decide +kernel
theorem dL_law_546 : decode cL_law 546 = .ok (.iadd, 1) := by decide +kernel
theorem dL_law_547 : decode cL_law 547 = .ok (.iaload, 1) := by decide +kernel
theorem dL_law_548 : decode cL_law 548 = .ok (.aload_n 0, 1) := by decide +kernel
theorem dL_law_549 : decode cL_law 549 = .ok (.iload_n 3, 1) := by decide +kernel
theorem dL_law_550 : decode cL_law 550 = .ok (.iconst 2, 1) := by decide +kernel
theorem dL_law_551 : decode cL_law 551 = .ok (.iadd, 1) := by decide +kernel
theorem dL_law_552 : decode cL_law 552 = .ok (.iaload, 1) := by decide +kernel
theorem dL_law_553 : decode cL_law 553 = .ok (.invokevirtual 88, 3) := by decide +kernel
theorem dL_law_556 : decode cL_law 556 = .ok (.aload_n 2, 1) := by decide +kernel
theorem dL_law_557 : decode cL_law 557 = .ok (.aload_n 0, 1) := by decide +kernel
theorem dL_law_558 : decode cL_law 558 = .ok (.iload_n 3, 1) := by decide +kernel
theorem dL_law_559 : decode cL_law 559 = .ok (.iconst 1, 1) := by decide +kernel
theorem dL_law_560 : decode cL_law 560 = .ok (.iadd, 1) := by decide +kernel
theorem dL_law_561 : decode cL_law 561 = .ok (.iaload, 1) := by decide +kernel
theorem dL_law_562 : decode cL_law 562 = .ok (.aload_n 0, 1) := by decide +kernel
theorem dL_law_563 : decode cL_law 563 = .ok (.iload_n 3, 1) := by decide +kernel
theorem dL_law_564 : decode cL_law 564 = .ok (.iconst 2, 1) := by decide +kernel
theorem dL_law_565 : decode cL_law 565 = .ok (.iadd, 1) := by decide +kernel
theorem dL_law_566 : decode cL_law 566 = .ok (.iaload, 1) := by decide +kernel
theorem dL_law_567 : decode cL_law 567 = .ok (.invokevirtual 91, 3) := by decide +kernel
theorem dL_law_570 : decode cL_law 570 = .ok (.if_icmp .eq 163, 3) := by decide +kernel
theorem dL_law_573 : decode cL_law 573 = .ok (.iconst 0, 1) := by decide +kernel
theorem dL_law_574 : decode cL_law 574 = .ok (.ireturn, 1) := by decide +kernel
theorem dL_law_575 : decode cL_law 575 = .ok (.aload_n 1, 1) := by decide +kernel
theorem dL_law_576 : decode cL_law 576 = .ok (.aload_n 0, 1) := by decide +kernel
theorem dL_law_577 : decode cL_law 577 = .ok (.iload_n 3, 1) := by decide +kernel
theorem dL_law_578 : decode cL_law 578 = .ok (.iconst 1, 1) := by decide +kernel
theorem dL_law_579 : decode cL_law 579 = .ok (.iadd, 1) := by decide +kernel
theorem dL_law_580 : decode cL_law 580 = .ok (.iaload, 1) := by decide +kernel
theorem dL_law_581 : decode cL_law 581 = .ok (.aload_n 0, 1) := by decide +kernel
theorem dL_law_582 : decode cL_law 582 = .ok (.iload_n 3, 1) := by decide +kernel
theorem dL_law_583 : decode cL_law 583 = .ok (.iconst 2, 1) := by decide +kernel
theorem dL_law_584 : decode cL_law 584 = .ok (.iadd, 1) := by decide +kernel
theorem dL_law_585 : decode cL_law 585 = .ok (.iaload, 1) := by decide +kernel
theorem dL_law_586 : decode cL_law 586 = .ok (.invokevirtual 92, 3) := by decide +kernel
theorem dL_law_589 : decode cL_law 589 = .ok (.aload_n 2, 1) := by decide +kernel
theorem dL_law_590 : decode cL_law 590 = .ok (.aload_n 0, 1) := by decide +kernel
theorem dL_law_591 : decode cL_law 591 = .ok (.iload_n 3, 1) := by decide +kernel
theorem dL_law_592 : decode cL_law 592 = .ok (.iconst 1, 1) := by decide +kernel
theorem dL_law_593 : decode cL_law 593 = .ok (.iadd, 1) := by decide +kernel
theorem dL_law_594 : decode cL_law 594 = .ok (.iaload, 1) := by decide +kernel
theorem dL_law_595 : decode cL_law 595 = .ok (.aload_n 0, 1) := by decide +kernel
theorem dL_law_596 : decode cL_law 596 = .ok (.iload_n 3, 1) := by decide +kernel
theorem dL_law_597 : decode cL_law 597 = .ok (.iconst 2, 1) := by decide +kernel
theorem dL_law_598 : decode cL_law 598 = .ok (.iadd, 1) := by decide +kernel
theorem dL_law_599 : decode cL_law 599 = .ok (.iaload, 1) := by decide +kernel
theorem dL_law_600 : decode cL_law 600 = .ok (.invokevirtual 95, 3) := by decide +kernel
theorem dL_law_603 : decode cL_law 603 = .ok (.if_icmp .eq 130, 3) := by decide +kernel
theorem dL_law_606 : decode cL_law 606 = .ok (.iconst 0, 1) := by decide +kernel
theorem dL_law_607 : decode cL_law 607 = .ok (.ireturn, 1) := by decide +kernel
theorem dL_law_608 : decode cL_law 608 = .ok (.aload_n 1, 1) := by decide +kernel
theorem dL_law_609 : decode cL_law 609 = .ok (.aload_n 0, 1) := by decide +kernel
theorem dL_law_610 : decode cL_law 610 = .ok (.iload_n 3, 1) := by decide +kernel
theorem dL_law_611 : decode cL_law 611 = .ok (.iconst 1, 1) := by decide +kernel
theorem dL_law_612 : decode cL_law 612 = .ok (.iadd, 1) := by decide +kernel
theorem dL_law_613 : decode cL_law 613 = .ok (.iaload, 1) := by decide +kernel
theorem dL_law_614 : decode cL_law 614 = .ok (.aload_n 0, 1) := by decide +kernel
theorem dL_law_615 : decode cL_law 615 = .ok (.iload_n 3, 1) := by decide +kernel
theorem dL_law_616 : decode cL_law 616 = .ok (.iconst 2, 1) := by decide +kernel
theorem dL_law_617 : decode cL_law 617 = .ok (.iadd, 1) := by decide +kernel
theorem dL_law_618 : decode cL_law 618 = .ok (.iaload, 1) := by decide +kernel
theorem dL_law_619 : decode cL_law 619 = .ok (.invokevirtual 96, 3) := by decide +kernel
theorem dL_law_622 : decode cL_law 622 = .ok (.aload_n 2, 1) := by decide +kernel
theorem dL_law_623 : decode cL_law 623 = .ok (.aload_n 0, 1) := by decide +kernel
theorem dL_law_624 : decode cL_law 624 = .ok (.iload_n 3, 1) := by decide +kernel
theorem dL_law_625 : decode cL_law 625 = .ok (.iconst 1, 1) := by decide +kernel
theorem dL_law_626 : decode cL_law 626 = .ok (.iadd, 1) := by decide +kernel
theorem dL_law_627 : decode cL_law 627 = .ok (.iaload, 1) := by decide +kernel
theorem dL_law_628 : decode cL_law 628 = .ok (.aload_n 0, 1) := by decide +kernel
theorem dL_law_629 : decode cL_law 629 = .ok (.iload_n 3, 1) := by decide +kernel
theorem dL_law_630 : decode cL_law 630 = .ok (.iconst 2, 1) := by decide +kernel
theorem dL_law_631 : decode cL_law 631 = .ok (.iadd, 1) := by decide +kernel
theorem dL_law_632 : decode cL_law 632 = .ok (.iaload, 1) := by decide +kernel
theorem dL_law_633 : decode cL_law 633 = .ok (.invokevirtual 99, 3) := by decide +kernel
theorem dL_law_636 : decode cL_law 636 = .ok (.if_icmp .eq 97, 3) := by decide +kernel
theorem dL_law_639 : decode cL_law 639 = .ok (.iconst 0, 1) := by decide +kernel
theorem dL_law_640 : decode cL_law 640 = .ok (.ireturn, 1) := by decide +kernel
theorem dL_law_641 : decode cL_law 641 = .ok (.aload_n 1, 1) := by decide +kernel
theorem dL_law_642 : decode cL_law 642 = .ok (.aload_n 0, 1) := by decide +kernel
theorem dL_law_643 : decode cL_law 643 = .ok (.iload_n 3, 1) := by decide +kernel
theorem dL_law_644 : decode cL_law 644 = .ok (.iconst 1, 1) := by decide +kernel
theorem dL_law_645 : decode cL_law 645 = .ok (.iadd, 1) := by decide +kernel
theorem dL_law_646 : decode cL_law 646 = .ok (.iaload, 1) := by decide +kernel
theorem dL_law_647 : decode cL_law 647 = .ok (.aload_n 0, 1) := by decide +kernel
theorem dL_law_648 : decode cL_law 648 = .ok (.iload_n 3, 1) := by decide +kernel
theorem dL_law_649 : decode cL_law 649 = .ok (.iconst 2, 1) := by decide +kernel
theorem dL_law_650 : decode cL_law 650 = .ok (.iadd, 1) := by decide +kernel
theorem dL_law_651 : decode cL_law 651 = .ok (.iaload, 1) := by decide +kernel
theorem dL_law_652 : decode cL_law 652 = .ok (.aload_n 0, 1) := by decide +kernel
theorem dL_law_653 : decode cL_law 653 = .ok (.iload_n 3, 1) := by decide +kernel
theorem dL_law_654 : decode cL_law 654 = .ok (.iconst 3, 1) := by decide +kernel
theorem dL_law_655 : decode cL_law 655 = .ok (.iadd, 1) := by decide +kernel
theorem dL_law_656 : decode cL_law 656 = .ok (.iaload, 1) := by decide +kernel
theorem dL_law_657 : decode cL_law 657 = .ok (.invokevirtual 100, 3) := by decide +kernel
theorem dL_law_660 : decode cL_law 660 = .ok (.aload_n 2, 1) := by decide +kernel
theorem dL_law_661 : decode cL_law 661 = .ok (.aload_n 0, 1) := by decide +kernel
theorem dL_law_662 : decode cL_law 662 = .ok (.iload_n 3, 1) := by decide +kernel
theorem dL_law_663 : decode cL_law 663 = .ok (.iconst 1, 1) := by decide +kernel
theorem dL_law_664 : decode cL_law 664 = .ok (.iadd, 1) := by decide +kernel
theorem dL_law_665 : decode cL_law 665 = .ok (.iaload, 1) := by decide +kernel
theorem dL_law_666 : decode cL_law 666 = .ok (.aload_n 0, 1) := by decide +kernel
theorem dL_law_667 : decode cL_law 667 = .ok (.iload_n 3, 1) := by decide +kernel
theorem dL_law_668 : decode cL_law 668 = .ok (.iconst 2, 1) := by decide +kernel
theorem dL_law_669 : decode cL_law 669 = .ok (.iadd, 1) := by decide +kernel
theorem dL_law_670 : decode cL_law 670 = .ok (.iaload, 1) := by decide +kernel
theorem dL_law_671 : decode cL_law 671 = .ok (.aload_n 0, 1) := by decide +kernel
theorem dL_law_672 : decode cL_law 672 = .ok (.iload_n 3, 1) := by decide +kernel
theorem dL_law_673 : decode cL_law 673 = .ok (.iconst 3, 1) := by decide +kernel
theorem dL_law_674 : decode cL_law 674 = .ok (.iadd, 1) := by decide +kernel
theorem dL_law_675 : decode cL_law 675 = .ok (.iaload, 1) := by decide +kernel
theorem dL_law_676 : decode cL_law 676 = .ok (.invokevirtual 104, 3) := by decide +kernel
theorem dL_law_679 : decode cL_law 679 = .ok (.if_icmp .eq 54, 3) := by decide +kernel
theorem dL_law_682 : decode cL_law 682 = .ok (.iconst 0, 1) := by decide +kernel
theorem dL_law_683 : decode cL_law 683 = .ok (.ireturn, 1) := by decide +kernel
theorem dL_law_684 : decode cL_law 684 = .ok (.aload_n 1, 1) := by decide +kernel
theorem dL_law_685 : decode cL_law 685 = .ok (.invokevirtual 105, 3) := by decide +kernel
theorem dL_law_688 : decode cL_law 688 = .ok (.aload_n 2, 1) := by decide +kernel
theorem dL_law_689 : decode cL_law 689 = .ok (.invokevirtual 108, 3) := by decide +kernel
theorem dL_law_692 : decode cL_law 692 = .ok (.if_icmp .eq 41, 3) := by decide +kernel
theorem dL_law_695 : decode cL_law 695 = .ok (.iconst 0, 1) := by decide +kernel
theorem dL_law_696 : decode cL_law 696 = .ok (.ireturn, 1) := by decide +kernel
theorem dL_law_697 : decode cL_law 697 = .ok (.aload_n 1, 1) := by decide +kernel
theorem dL_law_698 : decode cL_law 698 = .ok (.invokevirtual 109, 3) := by decide +kernel
theorem dL_law_701 : decode cL_law 701 = .ok (.aload_n 2, 1) := by decide +kernel
theorem dL_law_702 : decode cL_law 702 = .ok (.invokevirtual 112, 3) := by decide +kernel
theorem dL_law_705 : decode cL_law 705 = .ok (.if_icmp .eq 28, 3) := by decide +kernel
theorem dL_law_708 : decode cL_law 708 = .ok (.iconst 0, 1) := by decide +kernel
theorem dL_law_709 : decode cL_law 709 = .ok (.ireturn, 1) := by decide +kernel
theorem dL_law_710 : decode cL_law 710 = .ok (.aload_n 1, 1) := by decide +kernel
theorem dL_law_711 : decode cL_law 711 = .ok (.aload_n 0, 1) := by decide +kernel
theorem dL_law_712 : decode cL_law 712 = .ok (.iload_n 3, 1) := by decide +kernel
theorem dL_law_713 : decode cL_law 713 = .ok (.iconst 1, 1) := by decide +kernel
theorem dL_law_714 : decode cL_law 714 = .ok (.iadd, 1) := by decide +kernel
theorem dL_law_715 : decode cL_law 715 = .ok (.iaload, 1) := by decide +kernel
theorem dL_law_716 : decode cL_law 716 = .ok (.invokevirtual 113, 3) := by decide +kernel
theorem dL_law_719 : decode cL_law 719 = .ok (.aload_n 2, 1) := by decide +kernel
theorem dL_law_720 : decode cL_law 720 = .ok (.aload_n 0, 1) := by decide +kernel
theorem dL_law_721 : decode cL_law 721 = .ok (.iload_n 3, 1) := by decide +kernel
theorem dL_law_722 : decode cL_law 722 = .ok (.iconst 1, 1) := by decide +kernel
theorem dL_law_723 : decode cL_law 723 = .ok (.iadd, 1) := by decide +kernel
theorem dL_law_724 : decode cL_law 724 = .ok (.iaload, 1) := by decide +kernel
theorem dL_law_725 : decode cL_law 725 = .ok (.invokevirtual 116, 3) := by decide +kernel
theorem dL_law_728 : decode cL_law 728 = .ok (.if_icmp .eq 5, 3) := by decide +kernel
theorem dL_law_731 : decode cL_law 731 = .ok (.iconst 0, 1) := by decide +kernel
theorem dL_law_732 : decode cL_law 732 = .ok (.ireturn, 1) := by decide +kernel
theorem dL_law_733 : decode cL_law 733 = .ok (.iinc 3 4, 3) := by decide +kernel
theorem dL_law_736 : decode cL_law 736 = .ok (.goto (-718), 3) := by decide +kernel
theorem dL_law_739 : decode cL_law 739 = .ok (.iconst 1, 1) := by decide +kernel
theorem dL_law_740 : decode cL_law 740 = .ok (.ireturn, 1) := by decide +kernel
end
section
/-! 04.core: worlds by number. A world is a list of cells; a reference in it is a place in that list; 'ad' says where each place lies in the heap. G is the machine at a frame, seen so; Con is a method's contract, seen so. -/
def rv (ad : Nat → Nat) (v : Value) : Value := match v with
  | .ref i => .ref (ad i)
  | .int x => .int x
  | .long x => .long x
  | .float x => .float x
  | .double x => .double x
  | .null => .null
  | .retAddr x => .retAddr x
def rct (ad : Nat → Nat) (f : (Nat → Int32) ⊕ (Nat → Int64) ⊕ (Nat → UInt32) ⊕ (Nat → UInt64) ⊕ (Nat → Option Nat)) : (Nat → Int32) ⊕ (Nat → Int64) ⊕ (Nat → UInt32) ⊕ (Nat → UInt64) ⊕ (Nat → Option Nat) := match f with
  | .inl g => .inl g
  | .inr (.inl g) => .inr (.inl g)
  | .inr (.inr (.inl g)) => .inr (.inr (.inl g))
  | .inr (.inr (.inr (.inl g))) => .inr (.inr (.inr (.inl g)))
  | .inr (.inr (.inr (.inr g))) => .inr (.inr (.inr (.inr (fun j => (g j).map ad))))
def rcl (ct ad : Nat → Nat) (x : va_E) : va_E := match x with
  | .inl (t, n, f) => .inl (ct t, n, rct ad f)
  | .inr (c, fs) => .inr (c, fs.map (rv ad))
def wa (ct ad : Nat → Nat) (w : List va_E) : va_W := w.mapIdx (fun i x => (ad i, rcl ct ad x))
theorem wa_get (ct ad : Nat → Nat) (w : List va_E) (i : Nat) : (wa ct ad w)[i]? = (w[i]?).map (fun x => (ad i, rcl ct ad x)) := by simp [wa]
theorem wa_at {ct ad : Nat → Nat} {w : List va_E} {i : Nat} {x : va_E} (h : w[i]? = some x) : (wa ct ad w)[i]? = some (ad i, rcl ct ad x) := by rw [wa_get, h]; rfl
theorem wa_len (ct ad : Nat → Nat) (w : List va_E) : (wa ct ad w).length = w.length := by simp [wa]
theorem wa_set (ct ad : Nat → Nat) (w : List va_E) (i : Nat) (x : va_E) : (wa ct ad w).set i (ad i, rcl ct ad x) = wa ct ad (w.set i x) := by
  apply List.ext_getElem?
  intro j
  rw [wa_get, List.getElem?_set, List.getElem?_set, wa_get, wa_len]
  by_cases h : i = j
  · subst h
    by_cases h2 : i < w.length
    · simp [h2]
    · simp [h2]
  · simp [h]
theorem rv_cat (ad : Nat → Nat) (v : Value) : (rv ad v).category = v.category := by cases v <;> rfl
/-- the locals -/
def LR (ad : Nat → Nat) (nL : Nat) (ls : List (Option Value)) (la : Array Slot) : Prop := la.size = nL ∧ lv_wf la ∧ ∀ (i : Nat) (v : Value), ls[i]? = some (some v) → la[i]? = some (.val (rv ad v))
def lpr (ad : Nat → Nat) (ls : List (Option Value)) : List (Nat × Value) := (List.range ls.length).filterMap (fun i => match ls[i]? with
  | some (some v) => some (i, rv ad v)
  | _ => none)
theorem lpr_mem {ad : Nat → Nat} {ls : List (Option Value)} {i : Nat} {v : Value} (h : ls[i]? = some (some v)) : (i, rv ad v) ∈ lpr ad ls := by
  refine List.mem_filterMap.mpr ⟨i, List.mem_range.mpr (List.getElem?_eq_some_iff.mp h).1, ?_⟩
  rw [h]
theorem LR.has {ad : Nat → Nat} {nL : Nat} {ls : List (Option Value)} {la : Array Slot} (h : LR ad nL ls la) : lv_has la nL (lpr ad ls) := by
  refine ⟨h.1, h.2.1, fun q hq => ?_⟩
  obtain ⟨i, -, hi⟩ := List.mem_filterMap.mp hq
  split at hi
  · next v hv =>
    cases hi
    exact h.2.2 i v hv
  · cases hi
/-- no value of two places stands just below place i -/
def nl2 (ls : List (Option Value)) (i : Nat) : Bool := match i with
  | 0 => true
  | j + 1 => match ls[j]? with
    | some (some (.long _)) => false
    | some (some (.double _)) => false
    | _ => true
theorem nl2_ne {ls : List (Option Value)} {i j : Nat} {v : Value} (h : nl2 ls i = true) (hj : ls[j]? = some (some v)) (hji : j + 1 = i) : ¬ v.category = 2 := by
  subst hji
  simp only [nl2, hj] at h
  cases v <;> simp_all [Value.category]
theorem LR.store1 {ad : Nat → Nat} {nL : Nat} {ls : List (Option Value)} {la : Array Slot} {i : Nat} {v : Value} (hn : nl2 ls i = true)
    (h : lv_has la nL ((i, rv ad v) :: (lpr ad ls).filter (fun q => !(q.1 == i) && !(q.1 + 1 == i && q.2.category == 2)))) : LR ad nL (ls.set i (some v)) la := by
  refine ⟨h.1, h.2.1, fun j u hj => ?_⟩
  by_cases hij : i = j
  · subst hij
    by_cases hl : i < ls.length
    · rw [List.getElem?_set_self hl] at hj
      cases hj
      exact h.2.2 (i, rv ad v) List.mem_cons_self
    · rw [List.getElem?_eq_none (by simp; omega)] at hj
      cases hj
  · rw [List.getElem?_set_ne hij] at hj
    refine h.2.2 (j, rv ad u) (List.mem_cons_of_mem _ (List.mem_filter.mpr ⟨lpr_mem hj, ?_⟩))
    have h2 : ¬ (j + 1 = i ∧ u.category = 2) := fun q => nl2_ne hn hj q.1 q.2
    have h3 : ¬ j = i := fun q => hij q.symm
    simp only [rv_cat, Bool.and_eq_true, Bool.not_eq_true', beq_eq_false_iff_ne, ne_eq, Bool.and_eq_false_iff]
    refine ⟨h3, ?_⟩
    by_cases q : j + 1 = i
    · exact Or.inr (fun z => h2 ⟨q, z⟩)
    · exact Or.inl q
theorem LR.store2 {ad : Nat → Nat} {nL : Nat} {ls : List (Option Value)} {la : Array Slot} {i : Nat} {v : Value} (hn : nl2 ls i = true)
    (h : lv_has la nL ((i, rv ad v) :: (lpr ad ls).filter (fun q => !(q.1 == i) && (!(q.1 == i + 1) && !(q.1 + 1 == i && q.2.category == 2))))) : LR ad nL ((ls.set i (some v)).set (i + 1) none) la := by
  refine ⟨h.1, h.2.1, fun j u hj => ?_⟩
  by_cases hj1 : i + 1 = j
  · subst hj1
    by_cases hl : i + 1 < ls.length
    · rw [List.getElem?_set_self (by simpa using hl)] at hj
      cases hj
    · rw [List.getElem?_eq_none (by simp; omega)] at hj
      cases hj
  rw [List.getElem?_set_ne hj1] at hj
  by_cases hij : i = j
  · subst hij
    by_cases hl : i < ls.length
    · rw [List.getElem?_set_self hl] at hj
      cases hj
      exact h.2.2 (i, rv ad v) List.mem_cons_self
    · rw [List.getElem?_eq_none (by simp; omega)] at hj
      cases hj
  · rw [List.getElem?_set_ne hij] at hj
    refine h.2.2 (j, rv ad u) (List.mem_cons_of_mem _ (List.mem_filter.mpr ⟨lpr_mem hj, ?_⟩))
    have h2 : ¬ (j + 1 = i ∧ u.category = 2) := fun q => nl2_ne hn hj q.1 q.2
    have h3 : ¬ j = i := fun q => hij q.symm
    have h4 : ¬ j = i + 1 := fun q => hj1 q.symm
    simp only [rv_cat, Bool.and_eq_true, Bool.not_eq_true', beq_eq_false_iff_ne, ne_eq, Bool.and_eq_false_iff]
    refine ⟨h3, h4, ?_⟩
    by_cases q : j + 1 = i
    · exact Or.inr (fun z => h2 ⟨q, z⟩)
    · exact Or.inl q
/-! what a method is: its name, bytes, locals, answer; how deep it calls; cells and slots that it makes -/
abbrev MC : Type := MethodName × ByteArray × Nat × Option FieldType × Nat × Nat × Nat
abbrev mnm (M : MC) : MethodName := M.1
abbrev mby (M : MC) : ByteArray := M.2.1
abbrev mlo (M : MC) : Nat := M.2.2.1
abbrev mrt (M : MC) : Option FieldType := M.2.2.2.1
abbrev mdp (M : MC) : Nat := M.2.2.2.2.1
abbrev mkc (M : MC) : Nat := M.2.2.2.2.2.1
abbrev mks (M : MC) : Nat := M.2.2.2.2.2.2
def rmd (d c k : Nat) : Room := { frames := d, cells := c, slots := k, locals := 48 * d }
abbrev tys3 (ct : Nat → Nat) : List (ClassId × FieldType) := [(ct 0, .int), (ct 1, .char), (ct 2, .object "ButtressWall$State")]
/-- the private members of nest mates that are called -/
def nestW : List (String × Nat × MethodName × String) := [(RX8, 9, yX4_init, RX8), (RX8, 18, yX1_init, RX8), (RX8, 25, yX0_init, RX8), (RX8, 32, yX6_init, RX8), (RX6, 11, yX3_init, RX8), (RX6, 20, yX0_init, RX8), (RX2, 13, yX0_init, RX8), (RX2, 24, yX3_init, RX8), (RX8, 46, yX3_init, RX8), (RX5, 17, yX3_init, RX8), (RX8, 64, yX7_init, RX8), (RX7, 65, yX8_hasBit, RX8), (RX0, 115, yX8_hasBit, RX8), (RX3, 75, yX8_hasBit, RX8), (RX2, 62, yX8_isPart, RX8), (RX2, 69, yX8_hasBit, RX8)]
def KB (D : va_G) (ct : Nat → Nat) (U : State) : Prop := va_K D vwCl (tys3 ct) U ∧ (∀ q ∈ nestW, va_Nw (.methodLinkNest q.1 q.2.1 q.2.2.1 q.2.2.2) U) ∧ va_AO "ButtressWall$State" U
theorem KB.moved {D : va_G} {ct : Nat → Nat} {u U : State} (hW : u.WarmedH U.vm) (h : KB D ct u) : KB D ct U := ⟨va_K.moved hW.alike h.1, fun q hq => va_Nw.warmM hW (h.2.1 q hq), va_AO.moved hW.alike h.2.2⟩
theorem KB.calling {D : va_G} {ct : Nat → Nat} {U : State} {g : JFrame} {mk : MethodId} {a : Array Value} (h : KB D ct U) : KB D ct (U.calling g mk a) := ⟨va_K.moved (u := U) (U := U.calling g mk a) (Vm.Alike.refl U.vm) h.1, fun q hq => va_Nw.same rfl (u := U) (U := U.calling g mk a) rfl (h.2.1 q hq), va_AO.moved (u := U) (U := U.calling g mk a) (Vm.Alike.refl U.vm) h.2.2⟩
def Qm (D : va_G) (ct : Nat → Nat) (A : Nat → Prop) (ad0 : Nat → Nat) (n0 kc : Nat) (Q : Option Value → List va_E → Prop) : Array Value → State → Outcome → State → Prop := fun _ st oc t =>
  (∃ (r : Option Value) (w' : List va_E) (ad' : Nat → Nat), oc = .returned (r.map (rv ad')) ∧ Q r w' ∧ (∀ i, i < n0 → ad' i = ad0 i) ∧ (kc = 0 → ad' = ad0) ∧ va_P D vwCl (wa ct ad' w') t.heap ∧ va_D A (wa ct ad' w')) ∧ va_F A st t
def Pm (D : va_G) (ct ad : Nat → Nat) (sz : Nat) (av : List Value) (w : List va_E) : Array Value → State → Prop := va_Pc (av.map (rv ad)) (fun U => U.heap.size = sz ∧ va_P D vwCl (wa ct ad w) U.heap ∧ KB D ct U ∧ va_D (fun _ => True) (wa ct ad w))
def Con (l : Launch) (M : MC) (av : List Value) (w : List va_E) (Q : Option Value → List va_E → Prop) : Prop :=
  ∀ (D : va_G) (ct ad : Nat → Nat) (sz : Nat), Met l (mnm M) (.code (mnm M) (mby M) (mlo M) (mrt M) :: big) (rmd (mdp M) (mkc M) (mks M)) (Pm D ct ad sz av w) (Qm D ct (va_A (wa ct ad w) sz) ad w.length (mkc M) Q) (mkc M) (mks M) (va_A (wa ct ad w) sz)
def Cx (M : MC) (p : Program) (s : State) (m : MethodId) (args : Array Value) (meth : Method) (c : Code) (D : va_G) (ct : Nat → Nat) : Prop :=
  p.tables.exec = Jvm.exec ∧ c.code = mby M ∧ meth.sig.returnType = mrt M ∧ c.maxLocals = mlo M ∧ s.vm.findClass (mnm M).cls = some m.cls ∧ (∀ w ∈ big, w.before args s = true) ∧ meth.locks = false ∧ meth.name = (mnm M).name ∧ KB D ct s
def G (l : Launch) (M : MC) (z : Nat × Nat × Nat) (Q : Option Value → List va_E → Prop) (pc : Nat) (ls : List (Option Value)) (st : List Value) (w : List va_E) : Prop :=
  ∀ (p : Program) (e : Env) (s : State) (m : MethodId) (args : Array Value) (below : List Frame) (meth : Method) (c : Code) (D : va_G) (ct : Nat → Nat) (A : Nat → Prop) (ad0 ad : Nat → Nat) (H : Heap) (locs : List Loc) (la : Array Slot),
    Cx M p s m args meth c D ct → (∀ q, s.heap.size ≤ q → A q) → (∀ i, i < z.1 → ad i = ad0 i) → (z.2.1 = 0 → ad = ad0) → z.1 ≤ w.length → va_P D vwCl (wa ct ad w) H → va_D A (wa ct ad w) → va_S A s.heap H locs → LR ad (mlo M) ls la →
    W p l e (rmd (mdp M) (mkc M) (mks M)) s m args below meth c H locs z.2.1 z.2.2 (MQ below (Qm D ct A ad0 z.1 (mkc M) Q) args s (mkc M) (mks M) A) (F0 m pc la (st.map (rv ad)))
theorem lv_args_mem : ∀ (vs : List Value) (k : Nat), (∀ v ∈ vs, v.category = 1) → ∀ (i : Nat) (v : Value), vs[i]? = some v → (k + i, v) ∈ lv_args k vs
  | [], _, _, _, _, h => by simp at h
  | u :: vs, k, hc, 0, v, h => by
    have : u = v := by simpa using h
    subst this
    simp [lv_args]
  | u :: vs, k, hc, i + 1, v, h => by
    have h1 : vs[i]? = some v := by simpa using h
    have h2 := lv_args_mem vs (k + 1) (fun x hx => hc x (List.mem_cons_of_mem _ hx)) i v h1
    have hu : ¬ u.category = 2 := by rw [hc u List.mem_cons_self]; decide
    simp only [lv_args, hu, if_false]
    refine List.mem_cons_of_mem _ ?_
    rw [show k + (i + 1) = k + 1 + i by omega]
    exact h2
theorem lg_sl_len : ∀ (vs : List Value), (∀ v ∈ vs, v.category = 1) → (lg_sl vs).length = vs.length
  | [], _ => rfl
  | u :: vs, hc => by
    have h2 := lg_sl_len vs (fun x hx => hc x (List.mem_cons_of_mem _ hx))
    have hu : ¬ u.category = 2 := by rw [hc u List.mem_cons_self]; decide
    simp only [lg_sl, List.flatMap_cons, hu, if_false, List.length_append, List.length_cons, List.length_nil]
    simp only [lg_sl] at h2
    rw [h2]
    omega
theorem con_of {l : Launch} {M : MC} {av : List Value} {w : List va_E} {Q : Option Value → List va_E → Prop} (hp : plainName (mnm M).cls = true) (hcat : av.all (fun v => v.category == 1) = true) (hlen : av.length ≤ mlo M)
    (h : G l M (w.length, 0, 0) Q 0 (av.map some ++ List.replicate (mlo M - av.length) none) [] w) : Con l M av w Q := by
  intro D ct ad sz
  refine Met.ofW (cc := mby M) (maxL := mlo M) (ret := mrt M) hp rfl ?_
  intro p e s m args below meth c s₁ B hml hv
  obtain ⟨rfl, hsz, hP, hK, hD0⟩ := hv
  subst hsz
  have hts := atoms_spec (ws := .code (mnm M) (mby M) (mlo M) (mrt M) :: big) B.pre
  have hc1 : ∀ v ∈ av.map (rv ad), v.category = 1 := by
    intro v hv
    obtain ⟨u, hu, rfl⟩ := List.mem_map.mp hv
    rw [rv_cat]
    exact eq_of_beq (List.all_eq_true.mp hcat u hu)
  have hl := lv_entry (av.map (rv ad)) (n := mlo M) (by rw [lg_sl_len _ hc1, List.length_map]; exact hlen)
  rw [lg_entry_eq]
  refine h p e s m _ below meth c D ct _ ad ad s.heap [] _ ⟨B.exec, B.bytes, B.returns, hml, findClass_of_methodNamed B.named, fun w hw => hts w (List.mem_cons_of_mem _ hw), B.notSynchronized, (name_of_methodNamed B.named B.method).1, hK⟩ (fun q h => Or.inr h) (fun _ _ => rfl) (fun _ => rfl) (Nat.le_refl _) hP hD0.self va_S.rf ⟨hl.1, hl.2.1, fun i v hi => ?_⟩
  have hi2 : av[i]? = some v := by
    by_cases hil : i < av.length
    · rw [List.getElem?_append_left (by simpa using hil), List.getElem?_map] at hi
      cases hx : av[i]? with
      | none => rw [hx] at hi; cases hi
      | some u => rw [hx] at hi; cases hi; rfl
    · rw [List.getElem?_append_right (by simpa using hil)] at hi
      have := List.mem_of_getElem? hi
      rw [List.mem_replicate] at this
      cases this.2
  have := lv_args_mem (av.map (rv ad)) 0 hc1 i (rv ad v) (by rw [List.getElem?_map, hi2]; rfl)
  rw [Nat.zero_add] at this
  exact hl.2.2 _ this
end
section
/-! 05.rules: an instruction, a rule -/
section RU
variable {l : Launch} {M : MC} {z : Nat × Nat × Nat} {Q : Option Value → List va_E → Prop} {pc n : Nat} {ls : List (Option Value)} {st : List Value} {w : List va_E}
theorem g_iconst {k : Int} {v : Int32} (hd : decode (mby M) pc = .ok (.iconst k, 1)) (hv : Int32.ofInt k = v) (hn : pc + 1 = n) (kk : G l M z Q n ls (.int v :: st) w) : G l M z Q pc ls st w := by
  subst hn
  intro p e s m args below meth c D ct A ad0 ad H locs la C hA h0 h1 hz hP hD hS hL
  exact lv_iconst C.1 C.2.1 hd hv (kk p e s m args below meth c D ct A ad0 ad H locs la C hA h0 h1 hz hP hD hS hL)
theorem g_bipush {k : Int} {v : Int32} (hd : decode (mby M) pc = .ok (.bipush k, 2)) (hv : (Int8.ofInt k).toInt32 = v) (hn : pc + 2 = n) (kk : G l M z Q n ls (.int v :: st) w) : G l M z Q pc ls st w := by
  subst hn
  intro p e s m args below meth c D ct A ad0 ad H locs la C hA h0 h1 hz hP hD hS hL
  exact lv_bipush C.1 C.2.1 hd hv (kk p e s m args below meth c D ct A ad0 ad H locs la C hA h0 h1 hz hP hD hS hL)
theorem g_sipush {k : Int} {v : Int32} (hd : decode (mby M) pc = .ok (.sipush k, 3)) (hv : (Int16.ofInt k).toInt32 = v) (hn : pc + 3 = n) (kk : G l M z Q n ls (.int v :: st) w) : G l M z Q pc ls st w := by
  subst hn
  intro p e s m args below meth c D ct A ad0 ad H locs la C hA h0 h1 hz hP hD hS hL
  exact lv_sipush C.1 C.2.1 hd hv (kk p e s m args below meth c D ct A ad0 ad H locs la C hA h0 h1 hz hP hD hS hL)
theorem g_lconst {k : Fin 2} {v : Int64} (hd : decode (mby M) pc = .ok (.lconst k, 1)) (hv : Int64.ofNat (k : Nat) = v) (hn : pc + 1 = n) (kk : G l M z Q n ls (.long v :: st) w) : G l M z Q pc ls st w := by
  subst hn
  intro p e s m args below meth c D ct A ad0 ad H locs la C hA h0 h1 hz hP hD hS hL
  exact lv_lconst C.1 C.2.1 hd hv (kk p e s m args below meth c D ct A ad0 ad H locs la C hA h0 h1 hz hP hD hS hL)
theorem g_ldc {ix : Nat} {v : Int32} (hd : decode (mby M) pc = .ok (.ldc ix, 2)) (hw : Cond.constant (mnm M).cls ix v ∈ big) (hn : pc + 2 = n) (kk : G l M z Q n ls (.int v :: st) w) : G l M z Q pc ls st w := by
  subst hn
  intro p e s m args below meth c D ct A ad0 ad H locs la C hA h0 h1 hz hP hD hS hL
  exact lv_ldc C.1 C.2.1 C.2.2.2.2.1 (C.2.2.2.2.2.1 _ hw) hd (kk p e s m args below meth c D ct A ad0 ad H locs la C hA h0 h1 hz hP hD hS hL)
theorem g_ldc2 {ix : Nat} {v : Int64} (hd : decode (mby M) pc = .ok (.ldc2_w ix, 3)) (hw : Cond.constantLong (mnm M).cls ix v ∈ big) (hn : pc + 3 = n) (kk : G l M z Q n ls (.long v :: st) w) : G l M z Q pc ls st w := by
  subst hn
  intro p e s m args below meth c D ct A ad0 ad H locs la C hA h0 h1 hz hP hD hS hL
  exact lv_ldc2 C.1 C.2.1 C.2.2.2.2.1 (C.2.2.2.2.2.1 _ hw) hd (kk p e s m args below meth c D ct A ad0 ad H locs la C hA h0 h1 hz hP hD hS hL)
theorem g_iload_n {k : Fin 4} {x : Int32} (hd : decode (mby M) pc = .ok (.iload_n k, 1)) (hl : ls[(k : Nat)]? = some (some (.int x))) (hn : pc + 1 = n) (kk : G l M z Q n ls (.int x :: st) w) : G l M z Q pc ls st w := by
  subst hn
  intro p e s m args below meth c D ct A ad0 ad H locs la C hA h0 h1 hz hP hD hS hL
  exact lv_iload_n C.1 C.2.1 hd rfl (hL.2.2 _ _ hl) (kk p e s m args below meth c D ct A ad0 ad H locs la C hA h0 h1 hz hP hD hS hL)
theorem g_iload {i : Nat} {x : Int32} (hd : decode (mby M) pc = .ok (.iload i, 2)) (hl : ls[i]? = some (some (.int x))) (hn : pc + 2 = n) (kk : G l M z Q n ls (.int x :: st) w) : G l M z Q pc ls st w := by
  subst hn
  intro p e s m args below meth c D ct A ad0 ad H locs la C hA h0 h1 hz hP hD hS hL
  exact lv_iload C.1 C.2.1 hd (hL.2.2 _ _ hl) (kk p e s m args below meth c D ct A ad0 ad H locs la C hA h0 h1 hz hP hD hS hL)
theorem g_lload_n {k : Fin 4} {x : Int64} (hd : decode (mby M) pc = .ok (.lload_n k, 1)) (hl : ls[(k : Nat)]? = some (some (.long x))) (hn : pc + 1 = n) (kk : G l M z Q n ls (.long x :: st) w) : G l M z Q pc ls st w := by
  subst hn
  intro p e s m args below meth c D ct A ad0 ad H locs la C hA h0 h1 hz hP hD hS hL
  exact lv_lload_n C.1 C.2.1 hd rfl (hL.2.2 _ _ hl) (kk p e s m args below meth c D ct A ad0 ad H locs la C hA h0 h1 hz hP hD hS hL)
theorem g_lload {i : Nat} {x : Int64} (hd : decode (mby M) pc = .ok (.lload i, 2)) (hl : ls[i]? = some (some (.long x))) (hn : pc + 2 = n) (kk : G l M z Q n ls (.long x :: st) w) : G l M z Q pc ls st w := by
  subst hn
  intro p e s m args below meth c D ct A ad0 ad H locs la C hA h0 h1 hz hP hD hS hL
  exact lv_lload C.1 C.2.1 hd (hL.2.2 _ _ hl) (kk p e s m args below meth c D ct A ad0 ad H locs la C hA h0 h1 hz hP hD hS hL)
theorem g_aload_n {k : Fin 4} {x : Nat} (hd : decode (mby M) pc = .ok (.aload_n k, 1)) (hl : ls[(k : Nat)]? = some (some (.ref x))) (hn : pc + 1 = n) (kk : G l M z Q n ls (.ref x :: st) w) : G l M z Q pc ls st w := by
  subst hn
  intro p e s m args below meth c D ct A ad0 ad H locs la C hA h0 h1 hz hP hD hS hL
  exact lv_aload_n C.1 C.2.1 hd rfl (hL.2.2 _ _ hl) (kk p e s m args below meth c D ct A ad0 ad H locs la C hA h0 h1 hz hP hD hS hL)
theorem g_aload {i : Nat} {x : Nat} (hd : decode (mby M) pc = .ok (.aload i, 2)) (hl : ls[i]? = some (some (.ref x))) (hn : pc + 2 = n) (kk : G l M z Q n ls (.ref x :: st) w) : G l M z Q pc ls st w := by
  subst hn
  intro p e s m args below meth c D ct A ad0 ad H locs la C hA h0 h1 hz hP hD hS hL
  exact lv_aload C.1 C.2.1 hd (hL.2.2 _ _ hl) (kk p e s m args below meth c D ct A ad0 ad H locs la C hA h0 h1 hz hP hD hS hL)
theorem g_istore_n {k : Fin 4} {x : Int32} (hd : decode (mby M) pc = .ok (.istore_n k, 1)) (hi : (k : Nat) < mlo M) (h2 : nl2 ls k = true) (hn : pc + 1 = n) (kk : G l M z Q n (ls.set k (some (.int x))) st w) : G l M z Q pc ls (.int x :: st) w := by
  subst hn
  intro p e s m args below meth c D ct A ad0 ad H locs la C hA h0 h1 hz hP hD hS hL
  exact lv_istore_n C.1 C.2.1 hd rfl hL.has hi rfl (fun la' h' => kk p e s m args below meth c D ct A ad0 ad H locs la' C hA h0 h1 hz hP hD hS (LR.store1 (v := .int x) h2 h'))
theorem g_istore {i : Nat} {x : Int32} (hd : decode (mby M) pc = .ok (.istore i, 2)) (hi : i < mlo M) (h2 : nl2 ls i = true) (hn : pc + 2 = n) (kk : G l M z Q n (ls.set i (some (.int x))) st w) : G l M z Q pc ls (.int x :: st) w := by
  subst hn
  intro p e s m args below meth c D ct A ad0 ad H locs la C hA h0 h1 hz hP hD hS hL
  exact lv_istore C.1 C.2.1 hd hL.has hi rfl (fun la' h' => kk p e s m args below meth c D ct A ad0 ad H locs la' C hA h0 h1 hz hP hD hS (LR.store1 (v := .int x) h2 h'))
theorem g_astore_n {k : Fin 4} {x : Nat} (hd : decode (mby M) pc = .ok (.astore_n k, 1)) (hi : (k : Nat) < mlo M) (h2 : nl2 ls k = true) (hn : pc + 1 = n) (kk : G l M z Q n (ls.set k (some (.ref x))) st w) : G l M z Q pc ls (.ref x :: st) w := by
  subst hn
  intro p e s m args below meth c D ct A ad0 ad H locs la C hA h0 h1 hz hP hD hS hL
  exact lv_astore_n C.1 C.2.1 hd rfl hL.has hi rfl (fun la' h' => kk p e s m args below meth c D ct A ad0 ad H locs la' C hA h0 h1 hz hP hD hS (LR.store1 (v := .ref x) h2 h'))
theorem g_astore {i : Nat} {x : Nat} (hd : decode (mby M) pc = .ok (.astore i, 2)) (hi : i < mlo M) (h2 : nl2 ls i = true) (hn : pc + 2 = n) (kk : G l M z Q n (ls.set i (some (.ref x))) st w) : G l M z Q pc ls (.ref x :: st) w := by
  subst hn
  intro p e s m args below meth c D ct A ad0 ad H locs la C hA h0 h1 hz hP hD hS hL
  exact lv_astore C.1 C.2.1 hd hL.has hi rfl (fun la' h' => kk p e s m args below meth c D ct A ad0 ad H locs la' C hA h0 h1 hz hP hD hS (LR.store1 (v := .ref x) h2 h'))
theorem g_lstore_n {k : Fin 4} {x : Int64} (hd : decode (mby M) pc = .ok (.lstore_n k, 1)) (hi : (k : Nat) + 1 < mlo M) (h2 : nl2 ls k = true) (hn : pc + 1 = n) (kk : G l M z Q n ((ls.set k (some (.long x))).set (k + 1) none) st w) : G l M z Q pc ls (.long x :: st) w := by
  subst hn
  intro p e s m args below meth c D ct A ad0 ad H locs la C hA h0 h1 hz hP hD hS hL
  exact lv_lstore_n C.1 C.2.1 hd rfl hL.has hi rfl (fun la' h' => kk p e s m args below meth c D ct A ad0 ad H locs la' C hA h0 h1 hz hP hD hS (LR.store2 (v := .long x) h2 h'))
theorem g_lstore {i : Nat} {x : Int64} (hd : decode (mby M) pc = .ok (.lstore i, 2)) (hi : i + 1 < mlo M) (h2 : nl2 ls i = true) (hn : pc + 2 = n) (kk : G l M z Q n ((ls.set i (some (.long x))).set (i + 1) none) st w) : G l M z Q pc ls (.long x :: st) w := by
  subst hn
  intro p e s m args below meth c D ct A ad0 ad H locs la C hA h0 h1 hz hP hD hS hL
  exact lv_lstore C.1 C.2.1 hd hL.has hi rfl (fun la' h' => kk p e s m args below meth c D ct A ad0 ad H locs la' C hA h0 h1 hz hP hD hS (LR.store2 (v := .long x) h2 h'))
theorem g_iinc {i : Nat} {k : Int} {x v : Int32} (hd : decode (mby M) pc = .ok (.iinc i k, 3)) (hl : ls[i]? = some (some (.int x))) (hv : x + Int32.ofInt k = v) (hi : i < mlo M) (h2 : nl2 ls i = true) (hn : pc + 3 = n) (kk : G l M z Q n (ls.set i (some (.int v))) st w) : G l M z Q pc ls st w := by
  subst hn
  intro p e s m args below meth c D ct A ad0 ad H locs la C hA h0 h1 hz hP hD hS hL
  obtain ⟨j, hj⟩ := List.getElem?_of_mem (lpr_mem (ad := ad) hl)
  exact lv_iinc C.1 C.2.1 hd hL.has hj hv hi rfl (fun la' h' => kk p e s m args below meth c D ct A ad0 ad H locs la' C hA h0 h1 hz hP hD hS (LR.store1 (v := .int v) h2 h'))
theorem g_iincN {i : Nat} {x k : Nat} (hd : decode (mby M) pc = .ok (.iinc i (k : Int), 3)) (hl : ls[i]? = some (some (.int (nI x)))) (hi : i < mlo M) (h2 : nl2 ls i = true) (hn : pc + 3 = n) (kk : G l M z Q n (ls.set i (some (.int (nI (x + k))))) st w) : G l M z Q pc ls st w :=
  g_iinc hd hl (by rw [← nI_add]; rfl) hi h2 hn kk
theorem g_iadd {x y : Int32} (hd : decode (mby M) pc = .ok (.iadd, 1)) (hn : pc + 1 = n) (kk : G l M z Q n ls (.int (x + y) :: st) w) : G l M z Q pc ls (.int y :: .int x :: st) w := by
  subst hn
  intro p e s m args below meth c D ct A ad0 ad H locs la C hA h0 h1 hz hP hD hS hL
  exact lv_iadd C.1 C.2.1 hd (kk p e s m args below meth c D ct A ad0 ad H locs la C hA h0 h1 hz hP hD hS hL)
theorem g_isub {x y : Int32} (hd : decode (mby M) pc = .ok (.isub, 1)) (hn : pc + 1 = n) (kk : G l M z Q n ls (.int (x - y) :: st) w) : G l M z Q pc ls (.int y :: .int x :: st) w := by
  subst hn
  intro p e s m args below meth c D ct A ad0 ad H locs la C hA h0 h1 hz hP hD hS hL
  exact lv_isub C.1 C.2.1 hd (kk p e s m args below meth c D ct A ad0 ad H locs la C hA h0 h1 hz hP hD hS hL)
theorem g_imul {x y : Int32} (hd : decode (mby M) pc = .ok (.imul, 1)) (hn : pc + 1 = n) (kk : G l M z Q n ls (.int (x * y) :: st) w) : G l M z Q pc ls (.int y :: .int x :: st) w := by
  subst hn
  intro p e s m args below meth c D ct A ad0 ad H locs la C hA h0 h1 hz hP hD hS hL
  exact lv_imul C.1 C.2.1 hd (kk p e s m args below meth c D ct A ad0 ad H locs la C hA h0 h1 hz hP hD hS hL)
theorem g_iand {x y : Int32} (hd : decode (mby M) pc = .ok (.iand, 1)) (hn : pc + 1 = n) (kk : G l M z Q n ls (.int (x &&& y) :: st) w) : G l M z Q pc ls (.int y :: .int x :: st) w := by
  subst hn
  intro p e s m args below meth c D ct A ad0 ad H locs la C hA h0 h1 hz hP hD hS hL
  exact lv_iand C.1 C.2.1 hd (kk p e s m args below meth c D ct A ad0 ad H locs la C hA h0 h1 hz hP hD hS hL)
theorem g_ior {x y : Int32} (hd : decode (mby M) pc = .ok (.ior, 1)) (hn : pc + 1 = n) (kk : G l M z Q n ls (.int (x ||| y) :: st) w) : G l M z Q pc ls (.int y :: .int x :: st) w := by
  subst hn
  intro p e s m args below meth c D ct A ad0 ad H locs la C hA h0 h1 hz hP hD hS hL
  exact lv_ior C.1 C.2.1 hd (kk p e s m args below meth c D ct A ad0 ad H locs la C hA h0 h1 hz hP hD hS hL)
theorem g_ixor {x y : Int32} (hd : decode (mby M) pc = .ok (.ixor, 1)) (hn : pc + 1 = n) (kk : G l M z Q n ls (.int (x ^^^ y) :: st) w) : G l M z Q pc ls (.int y :: .int x :: st) w := by
  subst hn
  intro p e s m args below meth c D ct A ad0 ad H locs la C hA h0 h1 hz hP hD hS hL
  exact lv_ixor C.1 C.2.1 hd (kk p e s m args below meth c D ct A ad0 ad H locs la C hA h0 h1 hz hP hD hS hL)
theorem g_ishl {x y : Int32} (hd : decode (mby M) pc = .ok (.ishl, 1)) (hn : pc + 1 = n) (kk : G l M z Q n ls (.int (x <<< (y &&& 31)) :: st) w) : G l M z Q pc ls (.int y :: .int x :: st) w := by
  subst hn
  intro p e s m args below meth c D ct A ad0 ad H locs la C hA h0 h1 hz hP hD hS hL
  exact lv_ishl C.1 C.2.1 hd (kk p e s m args below meth c D ct A ad0 ad H locs la C hA h0 h1 hz hP hD hS hL)
theorem g_ishr {x y : Int32} (hd : decode (mby M) pc = .ok (.ishr, 1)) (hn : pc + 1 = n) (kk : G l M z Q n ls (.int (x >>> (y &&& 31)) :: st) w) : G l M z Q pc ls (.int y :: .int x :: st) w := by
  subst hn
  intro p e s m args below meth c D ct A ad0 ad H locs la C hA h0 h1 hz hP hD hS hL
  exact lv_ishr C.1 C.2.1 hd (kk p e s m args below meth c D ct A ad0 ad H locs la C hA h0 h1 hz hP hD hS hL)
theorem g_iushr {x y : Int32} (hd : decode (mby M) pc = .ok (.iushr, 1)) (hn : pc + 1 = n) (kk : G l M z Q n ls (.int ((x.toUInt32 >>> (y.toUInt32 &&& Int32.toUInt32 31)).toInt32) :: st) w) : G l M z Q pc ls (.int y :: .int x :: st) w := by
  subst hn
  intro p e s m args below meth c D ct A ad0 ad H locs la C hA h0 h1 hz hP hD hS hL
  exact lv_iushr C.1 C.2.1 hd rfl (kk p e s m args below meth c D ct A ad0 ad H locs la C hA h0 h1 hz hP hD hS hL)
theorem g_idiv {x y : Int32} (hd : decode (mby M) pc = .ok (.idiv, 1)) (hy : ¬ y = 0) (hn : pc + 1 = n) (kk : G l M z Q n ls (.int (x / y) :: st) w) : G l M z Q pc ls (.int y :: .int x :: st) w := by
  subst hn
  intro p e s m args below meth c D ct A ad0 ad H locs la C hA h0 h1 hz hP hD hS hL
  exact lv_idiv C.1 C.2.1 hd hy (kk p e s m args below meth c D ct A ad0 ad H locs la C hA h0 h1 hz hP hD hS hL)
theorem g_irem {x y : Int32} (hd : decode (mby M) pc = .ok (.irem, 1)) (hy : ¬ y = 0) (hn : pc + 1 = n) (kk : G l M z Q n ls (.int (x - x / y * y) :: st) w) : G l M z Q pc ls (.int y :: .int x :: st) w := by
  subst hn
  intro p e s m args below meth c D ct A ad0 ad H locs la C hA h0 h1 hz hP hD hS hL
  exact lv_irem C.1 C.2.1 hd hy (kk p e s m args below meth c D ct A ad0 ad H locs la C hA h0 h1 hz hP hD hS hL)
theorem g_ineg {x : Int32} (hd : decode (mby M) pc = .ok (.ineg, 1)) (hn : pc + 1 = n) (kk : G l M z Q n ls (.int (-x) :: st) w) : G l M z Q pc ls (.int x :: st) w := by
  subst hn
  intro p e s m args below meth c D ct A ad0 ad H locs la C hA h0 h1 hz hP hD hS hL
  exact lv_ineg C.1 C.2.1 hd (kk p e s m args below meth c D ct A ad0 ad H locs la C hA h0 h1 hz hP hD hS hL)
theorem g_ladd {x y : Int64} (hd : decode (mby M) pc = .ok (.ladd, 1)) (hn : pc + 1 = n) (kk : G l M z Q n ls (.long (x + y) :: st) w) : G l M z Q pc ls (.long y :: .long x :: st) w := by
  subst hn
  intro p e s m args below meth c D ct A ad0 ad H locs la C hA h0 h1 hz hP hD hS hL
  exact lv_ladd C.1 C.2.1 hd (kk p e s m args below meth c D ct A ad0 ad H locs la C hA h0 h1 hz hP hD hS hL)
theorem g_lmul {x y : Int64} (hd : decode (mby M) pc = .ok (.lmul, 1)) (hn : pc + 1 = n) (kk : G l M z Q n ls (.long (x * y) :: st) w) : G l M z Q pc ls (.long y :: .long x :: st) w := by
  subst hn
  intro p e s m args below meth c D ct A ad0 ad H locs la C hA h0 h1 hz hP hD hS hL
  exact lv_lmul C.1 C.2.1 hd (kk p e s m args below meth c D ct A ad0 ad H locs la C hA h0 h1 hz hP hD hS hL)
theorem g_lrem {x y : Int64} (hd : decode (mby M) pc = .ok (.lrem, 1)) (hy : ¬ y = 0) (hn : pc + 1 = n) (kk : G l M z Q n ls (.long (x - x / y * y) :: st) w) : G l M z Q pc ls (.long y :: .long x :: st) w := by
  subst hn
  intro p e s m args below meth c D ct A ad0 ad H locs la C hA h0 h1 hz hP hD hS hL
  exact lv_lrem C.1 C.2.1 hd hy (kk p e s m args below meth c D ct A ad0 ad H locs la C hA h0 h1 hz hP hD hS hL)
theorem g_i2l {x : Int32} (hd : decode (mby M) pc = .ok (.i2l, 1)) (hn : pc + 1 = n) (kk : G l M z Q n ls (.long x.toInt64 :: st) w) : G l M z Q pc ls (.int x :: st) w := by
  subst hn
  intro p e s m args below meth c D ct A ad0 ad H locs la C hA h0 h1 hz hP hD hS hL
  exact lv_i2l C.1 C.2.1 hd rfl (kk p e s m args below meth c D ct A ad0 ad H locs la C hA h0 h1 hz hP hD hS hL)
theorem g_l2i {x : Int64} (hd : decode (mby M) pc = .ok (.l2i, 1)) (hn : pc + 1 = n) (kk : G l M z Q n ls (.int x.toInt32 :: st) w) : G l M z Q pc ls (.long x :: st) w := by
  subst hn
  intro p e s m args below meth c D ct A ad0 ad H locs la C hA h0 h1 hz hP hD hS hL
  exact lv_l2i C.1 C.2.1 hd rfl (kk p e s m args below meth c D ct A ad0 ad H locs la C hA h0 h1 hz hP hD hS hL)
theorem g_i2c {x : Int32} (hd : decode (mby M) pc = .ok (.i2c, 1)) (hn : pc + 1 = n) (kk : G l M z Q n ls (.int (x.toUInt32 % 65536).toInt32 :: st) w) : G l M z Q pc ls (.int x :: st) w := by
  subst hn
  intro p e s m args below meth c D ct A ad0 ad H locs la C hA h0 h1 hz hP hD hS hL
  exact lv_i2c C.1 C.2.1 hd rfl (kk p e s m args below meth c D ct A ad0 ad H locs la C hA h0 h1 hz hP hD hS hL)
theorem g_dup {v : Value} (hd : decode (mby M) pc = .ok (.dup, 1)) (hv : v.category = 1) (hn : pc + 1 = n) (kk : G l M z Q n ls (v :: v :: st) w) : G l M z Q pc ls (v :: st) w := by
  subst hn
  intro p e s m args below meth c D ct A ad0 ad H locs la C hA h0 h1 hz hP hD hS hL
  exact lv_dup C.1 C.2.1 hd ((rv_cat ad v).trans hv) (kk p e s m args below meth c D ct A ad0 ad H locs la C hA h0 h1 hz hP hD hS hL)
theorem g_pop {v : Value} (hd : decode (mby M) pc = .ok (.pop, 1)) (hv : v.category = 1) (hn : pc + 1 = n) (kk : G l M z Q n ls st w) : G l M z Q pc ls (v :: st) w := by
  subst hn
  intro p e s m args below meth c D ct A ad0 ad H locs la C hA h0 h1 hz hP hD hS hL
  exact lv_pop C.1 C.2.1 hd ((rv_cat ad v).trans hv) (kk p e s m args below meth c D ct A ad0 ad H locs la C hA h0 h1 hz hP hD hS hL)
theorem g_dup2 {v u : Value} (hd : decode (mby M) pc = .ok (.dup2, 1)) (hv : v.category = 1) (hu : u.category = 1) (hn : pc + 1 = n) (kk : G l M z Q n ls (v :: u :: v :: u :: st) w) : G l M z Q pc ls (v :: u :: st) w := by
  subst hn
  intro p e s m args below meth c D ct A ad0 ad H locs la C hA h0 h1 hz hP hD hS hL
  exact lv_dup2_11 C.1 C.2.1 hd ((rv_cat ad v).trans hv) ((rv_cat ad u).trans hu) (kk p e s m args below meth c D ct A ad0 ad H locs la C hA h0 h1 hz hP hD hS hL)
theorem g_if_eq {x : Int32} {off : Int} {tgt : Nat} (hd : decode (mby M) pc = .ok (.ifCond .eq off, 3)) (ht : (pc : Int) + off = (tgt : Int)) (hn : pc + 3 = n) (kt : x = 0 → G l M z Q tgt ls st w) (kf : ¬ x = 0 → G l M z Q n ls st w) : G l M z Q pc ls (.int x :: st) w := by
  subst hn
  intro p e s m args below meth c D ct A ad0 ad H locs la C hA h0 h1 hz hP hD hS hL
  exact lv_if_eq C.1 C.2.1 hd ht (fun q => kt q p e s m args below meth c D ct A ad0 ad H locs la C hA h0 h1 hz hP hD hS hL) (fun q => kf q p e s m args below meth c D ct A ad0 ad H locs la C hA h0 h1 hz hP hD hS hL)
theorem g_icmp_eq {x y : Int32} {off : Int} {tgt : Nat} (hd : decode (mby M) pc = .ok (.if_icmp .eq off, 3)) (ht : (pc : Int) + off = (tgt : Int)) (hn : pc + 3 = n) (kt : x = y → G l M z Q tgt ls st w) (kf : ¬ x = y → G l M z Q n ls st w) : G l M z Q pc ls (.int y :: .int x :: st) w := by
  subst hn
  intro p e s m args below meth c D ct A ad0 ad H locs la C hA h0 h1 hz hP hD hS hL
  exact lv_icmp_eq C.1 C.2.1 hd ht (fun q => kt q p e s m args below meth c D ct A ad0 ad H locs la C hA h0 h1 hz hP hD hS hL) (fun q => kf q p e s m args below meth c D ct A ad0 ad H locs la C hA h0 h1 hz hP hD hS hL)
theorem g_if_ne {x : Int32} {off : Int} {tgt : Nat} (hd : decode (mby M) pc = .ok (.ifCond .ne off, 3)) (ht : (pc : Int) + off = (tgt : Int)) (hn : pc + 3 = n) (kt : ¬ x = 0 → G l M z Q tgt ls st w) (kf : x = 0 → G l M z Q n ls st w) : G l M z Q pc ls (.int x :: st) w := by
  subst hn
  intro p e s m args below meth c D ct A ad0 ad H locs la C hA h0 h1 hz hP hD hS hL
  exact lv_if_ne C.1 C.2.1 hd ht (fun q => kt q p e s m args below meth c D ct A ad0 ad H locs la C hA h0 h1 hz hP hD hS hL) (fun q => kf q p e s m args below meth c D ct A ad0 ad H locs la C hA h0 h1 hz hP hD hS hL)
theorem g_icmp_ne {x y : Int32} {off : Int} {tgt : Nat} (hd : decode (mby M) pc = .ok (.if_icmp .ne off, 3)) (ht : (pc : Int) + off = (tgt : Int)) (hn : pc + 3 = n) (kt : ¬ x = y → G l M z Q tgt ls st w) (kf : x = y → G l M z Q n ls st w) : G l M z Q pc ls (.int y :: .int x :: st) w := by
  subst hn
  intro p e s m args below meth c D ct A ad0 ad H locs la C hA h0 h1 hz hP hD hS hL
  exact lv_icmp_ne C.1 C.2.1 hd ht (fun q => kt q p e s m args below meth c D ct A ad0 ad H locs la C hA h0 h1 hz hP hD hS hL) (fun q => kf q p e s m args below meth c D ct A ad0 ad H locs la C hA h0 h1 hz hP hD hS hL)
theorem g_if_lt {x : Int32} {off : Int} {tgt : Nat} (hd : decode (mby M) pc = .ok (.ifCond .lt off, 3)) (ht : (pc : Int) + off = (tgt : Int)) (hn : pc + 3 = n) (kt : x < 0 → G l M z Q tgt ls st w) (kf : ¬ x < 0 → G l M z Q n ls st w) : G l M z Q pc ls (.int x :: st) w := by
  subst hn
  intro p e s m args below meth c D ct A ad0 ad H locs la C hA h0 h1 hz hP hD hS hL
  exact lv_if_lt C.1 C.2.1 hd ht (fun q => kt q p e s m args below meth c D ct A ad0 ad H locs la C hA h0 h1 hz hP hD hS hL) (fun q => kf q p e s m args below meth c D ct A ad0 ad H locs la C hA h0 h1 hz hP hD hS hL)
theorem g_icmp_lt {x y : Int32} {off : Int} {tgt : Nat} (hd : decode (mby M) pc = .ok (.if_icmp .lt off, 3)) (ht : (pc : Int) + off = (tgt : Int)) (hn : pc + 3 = n) (kt : x < y → G l M z Q tgt ls st w) (kf : ¬ x < y → G l M z Q n ls st w) : G l M z Q pc ls (.int y :: .int x :: st) w := by
  subst hn
  intro p e s m args below meth c D ct A ad0 ad H locs la C hA h0 h1 hz hP hD hS hL
  exact lv_icmp_lt C.1 C.2.1 hd ht (fun q => kt q p e s m args below meth c D ct A ad0 ad H locs la C hA h0 h1 hz hP hD hS hL) (fun q => kf q p e s m args below meth c D ct A ad0 ad H locs la C hA h0 h1 hz hP hD hS hL)
theorem g_if_ge {x : Int32} {off : Int} {tgt : Nat} (hd : decode (mby M) pc = .ok (.ifCond .ge off, 3)) (ht : (pc : Int) + off = (tgt : Int)) (hn : pc + 3 = n) (kt : 0 ≤ x → G l M z Q tgt ls st w) (kf : ¬ 0 ≤ x → G l M z Q n ls st w) : G l M z Q pc ls (.int x :: st) w := by
  subst hn
  intro p e s m args below meth c D ct A ad0 ad H locs la C hA h0 h1 hz hP hD hS hL
  exact lv_if_ge C.1 C.2.1 hd ht (fun q => kt q p e s m args below meth c D ct A ad0 ad H locs la C hA h0 h1 hz hP hD hS hL) (fun q => kf q p e s m args below meth c D ct A ad0 ad H locs la C hA h0 h1 hz hP hD hS hL)
theorem g_icmp_ge {x y : Int32} {off : Int} {tgt : Nat} (hd : decode (mby M) pc = .ok (.if_icmp .ge off, 3)) (ht : (pc : Int) + off = (tgt : Int)) (hn : pc + 3 = n) (kt : y ≤ x → G l M z Q tgt ls st w) (kf : ¬ y ≤ x → G l M z Q n ls st w) : G l M z Q pc ls (.int y :: .int x :: st) w := by
  subst hn
  intro p e s m args below meth c D ct A ad0 ad H locs la C hA h0 h1 hz hP hD hS hL
  exact lv_icmp_ge C.1 C.2.1 hd ht (fun q => kt q p e s m args below meth c D ct A ad0 ad H locs la C hA h0 h1 hz hP hD hS hL) (fun q => kf q p e s m args below meth c D ct A ad0 ad H locs la C hA h0 h1 hz hP hD hS hL)
theorem g_if_gt {x : Int32} {off : Int} {tgt : Nat} (hd : decode (mby M) pc = .ok (.ifCond .gt off, 3)) (ht : (pc : Int) + off = (tgt : Int)) (hn : pc + 3 = n) (kt : 0 < x → G l M z Q tgt ls st w) (kf : ¬ 0 < x → G l M z Q n ls st w) : G l M z Q pc ls (.int x :: st) w := by
  subst hn
  intro p e s m args below meth c D ct A ad0 ad H locs la C hA h0 h1 hz hP hD hS hL
  exact lv_if_gt C.1 C.2.1 hd ht (fun q => kt q p e s m args below meth c D ct A ad0 ad H locs la C hA h0 h1 hz hP hD hS hL) (fun q => kf q p e s m args below meth c D ct A ad0 ad H locs la C hA h0 h1 hz hP hD hS hL)
theorem g_icmp_gt {x y : Int32} {off : Int} {tgt : Nat} (hd : decode (mby M) pc = .ok (.if_icmp .gt off, 3)) (ht : (pc : Int) + off = (tgt : Int)) (hn : pc + 3 = n) (kt : y < x → G l M z Q tgt ls st w) (kf : ¬ y < x → G l M z Q n ls st w) : G l M z Q pc ls (.int y :: .int x :: st) w := by
  subst hn
  intro p e s m args below meth c D ct A ad0 ad H locs la C hA h0 h1 hz hP hD hS hL
  exact lv_icmp_gt C.1 C.2.1 hd ht (fun q => kt q p e s m args below meth c D ct A ad0 ad H locs la C hA h0 h1 hz hP hD hS hL) (fun q => kf q p e s m args below meth c D ct A ad0 ad H locs la C hA h0 h1 hz hP hD hS hL)
theorem g_if_le {x : Int32} {off : Int} {tgt : Nat} (hd : decode (mby M) pc = .ok (.ifCond .le off, 3)) (ht : (pc : Int) + off = (tgt : Int)) (hn : pc + 3 = n) (kt : x ≤ 0 → G l M z Q tgt ls st w) (kf : ¬ x ≤ 0 → G l M z Q n ls st w) : G l M z Q pc ls (.int x :: st) w := by
  subst hn
  intro p e s m args below meth c D ct A ad0 ad H locs la C hA h0 h1 hz hP hD hS hL
  exact lv_if_le C.1 C.2.1 hd ht (fun q => kt q p e s m args below meth c D ct A ad0 ad H locs la C hA h0 h1 hz hP hD hS hL) (fun q => kf q p e s m args below meth c D ct A ad0 ad H locs la C hA h0 h1 hz hP hD hS hL)
theorem g_icmp_le {x y : Int32} {off : Int} {tgt : Nat} (hd : decode (mby M) pc = .ok (.if_icmp .le off, 3)) (ht : (pc : Int) + off = (tgt : Int)) (hn : pc + 3 = n) (kt : x ≤ y → G l M z Q tgt ls st w) (kf : ¬ x ≤ y → G l M z Q n ls st w) : G l M z Q pc ls (.int y :: .int x :: st) w := by
  subst hn
  intro p e s m args below meth c D ct A ad0 ad H locs la C hA h0 h1 hz hP hD hS hL
  exact lv_icmp_le C.1 C.2.1 hd ht (fun q => kt q p e s m args below meth c D ct A ad0 ad H locs la C hA h0 h1 hz hP hD hS hL) (fun q => kf q p e s m args below meth c D ct A ad0 ad H locs la C hA h0 h1 hz hP hD hS hL)
theorem g_goto {off : Int} {tgt : Nat} (hd : decode (mby M) pc = .ok (.goto off, 3)) (ht : (pc : Int) + off = (tgt : Int)) (kk : G l M z Q tgt ls st w) : G l M z Q pc ls st w := by
  intro p e s m args below meth c D ct A ad0 ad H locs la C hA h0 h1 hz hP hD hS hL
  exact lv_goto C.1 C.2.1 hd ht (kk p e s m args below meth c D ct A ad0 ad H locs la C hA h0 h1 hz hP hD hS hL)
theorem g_lookup {dflt : Int} {ps : Array (Int × Int)} {len : Nat} {x : Int32} {off : Int} {tgt : Nat} (hd : decode (mby M) pc = .ok (.lookupswitch dflt ps, len)) (hp : (ps.toList.zip (ps.toList.drop 1)).all (fun (a, next) => a.1 < next.1) = true) (ho : Op.lookupswitch.offset ps.toList dflt x.toInt = off) (ht : (pc : Int) + off = (tgt : Int)) (kk : G l M z Q tgt ls st w) : G l M z Q pc ls (.int x :: st) w := by
  intro p e s m args below meth c D ct A ad0 ad H locs la C hA h0 h1 hz hP hD hS hL
  exact lv_lookup C.1 C.2.1 hd hp ho ht (kk p e s m args below meth c D ct A ad0 ad H locs la C hA h0 h1 hz hP hD hS hL)
theorem g_tableOut {dflt lo hi : Int} {offs : Array Int} {len : Nat} {x : Int32} {tgt : Nat} (hd : decode (mby M) pc = .ok (.tableswitch dflt lo hi offs, len)) (h : x.toInt < lo ∨ hi < x.toInt) (ht : (pc : Int) + dflt = (tgt : Int)) (kk : G l M z Q tgt ls st w) : G l M z Q pc ls (.int x :: st) w := by
  intro p e s m args below meth c D ct A ad0 ad H locs la C hA h0 h1 hz hP hD hS hL
  exact lv_tableOut C.1 C.2.1 hd h ht (kk p e s m args below meth c D ct A ad0 ad H locs la C hA h0 h1 hz hP hD hS hL)
theorem g_tableIn {dflt lo hi : Int} {offs : Array Int} {len : Nat} {x : Int32} {off : Int} {tgt : Nat} (hd : decode (mby M) pc = .ok (.tableswitch dflt lo hi offs, len)) (g1 : ¬ x.toInt < lo) (g2 : ¬ hi < x.toInt) (ho : offs[(x.toInt - lo).toNat]? = some off) (ht : (pc : Int) + off = (tgt : Int)) (kk : G l M z Q tgt ls st w) : G l M z Q pc ls (.int x :: st) w := by
  intro p e s m args below meth c D ct A ad0 ad H locs la C hA h0 h1 hz hP hD hS hL
  exact lv_tableIn C.1 C.2.1 hd g1 g2 ho ht (kk p e s m args below meth c D ct A ad0 ad H locs la C hA h0 h1 hz hP hD hS hL)
theorem g_top {x y : Int32} (h : x = y) (kk : G l M z Q pc ls (.int y :: st) w) : G l M z Q pc ls (.int x :: st) w := h ▸ kk
theorem g_iaddN {x y : Nat} (hd : decode (mby M) pc = .ok (.iadd, 1)) (hn : pc + 1 = n) (kk : G l M z Q n ls (.int (nI (x + y)) :: st) w) : G l M z Q pc ls (.int (nI y) :: .int (nI x) :: st) w := g_iadd hd hn (g_top (nI_add x y) kk)
theorem g_isubN {x y : Nat} (hd : decode (mby M) pc = .ok (.isub, 1)) (hn : pc + 1 = n) (hxy : y ≤ x) (kk : G l M z Q n ls (.int (nI (x - y)) :: st) w) : G l M z Q pc ls (.int (nI y) :: .int (nI x) :: st) w := g_isub hd hn (g_top (pk_sub hxy) kk)
theorem g_imulN {x y : Nat} (hd : decode (mby M) pc = .ok (.imul, 1)) (hn : pc + 1 = n) (kk : G l M z Q n ls (.int (nI (x * y)) :: st) w) : G l M z Q pc ls (.int (nI y) :: .int (nI x) :: st) w := g_imul hd hn (g_top (pk_mul x y) kk)
theorem g_iret {v : Int32} {ty : FieldType} (hd : decode (mby M) pc = .ok (.ireturn, 1)) (hr : mrt M = some ty) (hv : narrow ty (.int v) = .int v) (hc : z.2.1 ≤ mkc M ∧ z.2.2 ≤ mks M) (hq : Q (some (.int v)) w) : G l M z Q pc ls [.int v] w := by
  intro p e s m args below meth c D ct A ad0 ad H locs la C hA h0 h1 hz hP hD hS hL
  refine W.widen (k := mkc M) (n := mks M) hc.1 hc.2 ?_
  exact W.zret (ty := ty) C.1 C.2.1 (C.2.2.1.trans hr) hv (fun t ht hW => ⟨⟨some (.int v), w, ad, rfl, hq, h0, fun q => h1 (Nat.le_zero.mp (q ▸ hc.1)), by rw [ht]; exact hP, hD⟩, hS.F ht⟩) hS.2.2 hd C.2.2.2.2.2.2.1
theorem g_vret (hd : decode (mby M) pc = .ok (.return_, 1)) (hr : mrt M = none) (hc : z.2.1 ≤ mkc M ∧ z.2.2 ≤ mks M) (hq : Q none w) : G l M z Q pc ls [] w := by
  intro p e s m args below meth c D ct A ad0 ad H locs la C hA h0 h1 hz hP hD hS hL
  refine W.widen (k := mkc M) (n := mks M) hc.1 hc.2 ?_
  exact W.vret C.1 C.2.1 (C.2.2.1.trans hr) (fun t ht hW => ⟨⟨none, w, ad, rfl, hq, h0, fun q => h1 (Nat.le_zero.mp (q ▸ hc.1)), by rw [ht]; exact hP, hD⟩, hS.F ht⟩) hS.2.2 hd C.2.2.2.2.2.2.1
end RU
end
section
/-! 06.heap: fields, arrays -/
/-- a field, as the class 'own' links it: place ix of its pool, class ci of vwCl, slot k -/
def FL (own : String) (ix ci k : Nat) : Prop := ∃ r : vw_C, vwCl[ci]? = some r ∧ k < r.2.2 ∧ Cond.fieldLink own ix (r.2.1 k).1 (r.2.1 k).2.1 (r.2.1 k).2.2.1 ∈ big ∧ ∀ w ∈ u_ws r.1 r.2.1 r.2.2, w ∈ big
/-- what the tables say of a class's fields -/
def FT (r : vw_C) : Prop := ∃ ty0 : Nat → FieldType, (∀ k, k < r.2.2 → parseFieldDescriptor (r.2.1 k).2.2.1 = some (ty0 k)) ∧ (∀ a, a < r.2.2 → ∀ b, b < r.2.2 → a ≠ b → (r.2.1 a).2.1 ≠ (r.2.1 b).2.1)
def PF (own : String) (ix ci k : Nat) (fin : Bool) (ty : FieldType) : Prop := ∃ r : vw_C, vwCl[ci]? = some r ∧ k < r.2.2 ∧ Cond.fieldLink own ix (r.2.1 k).1 (r.2.1 k).2.1 (r.2.1 k).2.2.1 ∈ big ∧ (∀ w ∈ u_ws r.1 r.2.1 r.2.2, w ∈ big) ∧ FT r ∧ (r.2.1 k).2.2.2 = fin ∧ (r.2.1 k).1 = r.1 ∧ parseFieldDescriptor (r.2.1 k).2.2.1 = some ty
section RH
variable {l : Launch} {M : MC} {z : Nat × Nat × Nat} {Q : Option Value → List va_E → Prop} {pc n : Nat} {ls : List (Option Value)} {st : List Value} {w : List va_E}
theorem g_get {ix ci k a : Nat} {fs : List Value} {v : Value} (hf : FL (mnm M).cls ix ci k) (hd : decode (mby M) pc = .ok (.getfield ix, 3)) (hw : w[a]? = some (.inr (ci, fs))) (hv : fs[k]? = some v) (hn : pc + 3 = n) (kk : G l M z Q n ls (v :: st) w) : G l M z Q pc ls (.ref a :: st) w := by
  subst hn
  obtain ⟨⟨C0, T, N⟩, hc, hk, hlk, hin⟩ := hf
  intro p e s m args below meth c D ct A ad0 ad H locs la C hA h0 h1 hz hP hD hS hL
  exact va_get (own := (mnm M).cls) (ref := (T k).1) (v := rv ad v) C.1 C.2.1 C.2.2.2.2.2.1 hin C.2.2.2.2.1 C.2.2.2.2.2.2.2.2.1 hP a (wa_at hw) hc k hk (C.2.2.2.2.2.1 _ hlk) (fun _ h => h) (by rw [List.getElem?_map, hv]; rfl) hd (kk p e s m args below meth c D ct A ad0 ad H locs la C hA h0 h1 hz hP hD hS hL)
theorem wa_setF (ct ad : Nat → Nat) (w : List va_E) (a ci k : Nat) (fs : List Value) (v : Value) : (wa ct ad w).set a (ad a, .inr (ci, (fs.map (rv ad)).set k (rv ad v))) = wa ct ad (w.set a (.inr (ci, fs.set k v))) := by
  rw [← wa_set]
  show _ = List.set _ a (ad a, (Sum.inr (ci, (fs.set k v).map (rv ad)) : va_E))
  rw [List.map_set]
theorem g_put {ix ci k a : Nat} {fs : List Value} {v : Value} {ty : FieldType} (hf : PF (mnm M).cls ix ci k false ty) (hd : decode (mby M) pc = .ok (.putfield ix, 3)) (hw : w[a]? = some (.inr (ci, fs))) (hk2 : k < fs.length) (hnr : ∀ ad : Nat → Nat, narrow ty (rv ad v) = rv ad v) (hfit : ∀ ad : Nat → Nat, fits ty (rv ad v) = true) (hn : pc + 3 = n)
    (kk : G l M z Q n ls st (w.set a (.inr (ci, fs.set k v)))) : G l M z Q pc ls (v :: .ref a :: st) w := by
  subst hn
  obtain ⟨⟨C0, T, N⟩, hc, hk, hlk, hin, ⟨ty0, hty, hnm⟩, hfin, hcl, hpd⟩ := hf
  intro p e s m args below meth c D ct A ad0 ad H locs la C hA h0 h1 hz hP hD hS hL
  refine va_put (own := (mnm M).cls) (ref := (T k).1) (v := rv ad v) (ty := ty) C.1 C.2.1 C.2.2.2.2.2.1 hin ty0 hty hnm C.2.2.2.2.1 C.2.2.2.2.2.2.2.2.1 hP hD hS a (wa_at hw) hc k hk (C.2.2.2.2.2.1 _ hlk) (fun _ h => h) hfin hpd (hnr ad) (hfit ad) (by simpa using hk2) hd (fun H1 locs1 hP1 hD1 hS1 => ?_)
  rw [wa_setF] at hP1 hD1
  exact kk p e s m args below meth c D ct A ad0 ad H1 locs1 la C hA h0 h1 (by simpa using hz) hP1 hD1 hS1 hL
theorem g_putF {ix ci k a : Nat} {fs : List Value} {v : Value} {ty : FieldType} (hf : PF (mnm M).cls ix ci k true ty) (hi : (mnm M).name = "<init>") (ho : (vwCl[ci]?).map (fun r => r.1) = some (mnm M).cls) (hd : decode (mby M) pc = .ok (.putfield ix, 3)) (hw : w[a]? = some (.inr (ci, fs))) (hk2 : k < fs.length) (hnr : ∀ ad : Nat → Nat, narrow ty (rv ad v) = rv ad v) (hfit : ∀ ad : Nat → Nat, fits ty (rv ad v) = true) (hn : pc + 3 = n)
    (kk : G l M z Q n ls st (w.set a (.inr (ci, fs.set k v)))) : G l M z Q pc ls (v :: .ref a :: st) w := by
  subst hn
  obtain ⟨⟨C0, T, N⟩, hc, hk, hlk, hin, ⟨ty0, hty, hnm⟩, hfin, hcl, hpd⟩ := hf
  rw [hc] at ho
  intro p e s m args below meth c D ct A ad0 ad H locs la C hA h0 h1 hz hP hD hS hL
  refine va_putF (own := (mnm M).cls) (ref := (T k).1) (v := rv ad v) (ty := ty) C.1 C.2.1 C.2.2.2.2.2.1 hin ty0 hty hnm C.2.2.2.2.1 C.2.2.2.2.2.2.2.2.1 hP hD hS a (wa_at hw) hc k hk (C.2.2.2.2.2.1 _ hlk) (fun _ h => h) hfin (C.2.2.2.2.2.2.2.1.trans hi) (hcl.trans (Option.some.inj ho)) hpd (hnr ad) (hfit ad) (by simpa using hk2) hd (fun H1 locs1 hP1 hD1 hS1 => ?_)
  rw [wa_setF] at hP1 hD1
  exact kk p e s m args below meth c D ct A ad0 ad H1 locs1 la C hA h0 h1 (by simpa using hz) hP1 hD1 hS1 hL
theorem g_iald {a N : Nat} {f : Nat → Int32} {i : Int32} (hd : decode (mby M) pc = .ok (.iaload, 1)) (hw : w[a]? = some (.inl (0, N, .inl f))) (hin : vp_in i N) (hn : pc + 1 = n) (kk : G l M z Q n ls (.int (f i.toNatClampNeg) :: st) w) : G l M z Q pc ls (.int i :: .ref a :: st) w := by
  subst hn
  intro p e s m args below meth c D ct A ad0 ad H locs la C hA h0 h1 hz hP hD hS hL
  exact va_iald C.1 C.2.1 C.2.2.2.2.2.2.2.2.1 hP a 0 (wa_at hw) rfl hin hd (kk p e s m args below meth c D ct A ad0 ad H locs la C hA h0 h1 hz hP hD hS hL)
theorem g_cald {a N : Nat} {f : Nat → Int32} {i : Int32} (hd : decode (mby M) pc = .ok (.caload, 1)) (hw : w[a]? = some (.inl (1, N, .inl f))) (hin : vp_in i N) (hn : pc + 1 = n) (kk : G l M z Q n ls (.int (f i.toNatClampNeg) :: st) w) : G l M z Q pc ls (.int i :: .ref a :: st) w := by
  subst hn
  intro p e s m args below meth c D ct A ad0 ad H locs la C hA h0 h1 hz hP hD hS hL
  exact va_cald C.1 C.2.1 C.2.2.2.2.2.2.2.2.1 hP a 1 (wa_at hw) rfl hin hd (kk p e s m args below meth c D ct A ad0 ad H locs la C hA h0 h1 hz hP hD hS hL)
theorem g_iast {a N : Nat} {f : Nat → Int32} {i x : Int32} (hd : decode (mby M) pc = .ok (.iastore, 1)) (hw : w[a]? = some (.inl (0, N, .inl f))) (hin : vp_in i N) (hn : pc + 1 = n) (kk : G l M z Q n ls st (w.set a (.inl (0, N, .inl (upd f i.toNatClampNeg x))))) : G l M z Q pc ls (.int x :: .int i :: .ref a :: st) w := by
  subst hn
  intro p e s m args below meth c D ct A ad0 ad H locs la C hA h0 h1 hz hP hD hS hL
  refine va_iast C.1 C.2.1 C.2.2.2.2.2.2.2.2.1 hP hD hS a 0 (wa_at hw) rfl hin hd (fun H1 locs1 hP1 hD1 hS1 => ?_)
  have e1 := wa_set ct ad w a (.inl (0, N, .inl (upd f i.toNatClampNeg x)))
  exact kk p e s m args below meth c D ct A ad0 ad H1 locs1 la C hA h0 h1 (by simpa using hz) (e1 ▸ hP1) (e1 ▸ hD1) hS1 hL
theorem g_cast {a N : Nat} {f : Nat → Int32} {i x : Int32} (hd : decode (mby M) pc = .ok (.castore, 1)) (hw : w[a]? = some (.inl (1, N, .inl f))) (hin : vp_in i N) (hn : pc + 1 = n) (kk : G l M z Q n ls st (w.set a (.inl (1, N, .inl (upd f i.toNatClampNeg (vp_nar .char x)))))) : G l M z Q pc ls (.int x :: .int i :: .ref a :: st) w := by
  subst hn
  intro p e s m args below meth c D ct A ad0 ad H locs la C hA h0 h1 hz hP hD hS hL
  refine va_cast C.1 C.2.1 C.2.2.2.2.2.2.2.2.1 hP hD hS a 1 (wa_at hw) rfl hin hd (fun H1 locs1 hP1 hD1 hS1 => ?_)
  have e1 := wa_set ct ad w a (.inl (1, N, .inl (upd f i.toNatClampNeg (vp_nar .char x))))
  exact kk p e s m args below meth c D ct A ad0 ad H1 locs1 la C hA h0 h1 (by simpa using hz) (e1 ▸ hP1) (e1 ▸ hD1) hS1 hL
theorem g_aald {a N r : Nat} {f : Nat → Option Nat} {i : Int32} (hd : decode (mby M) pc = .ok (.aaload, 1)) (hw : w[a]? = some (.inl (2, N, .inr (.inr (.inr (.inr f)))))) (hin : vp_in i N) (hr : f i.toNatClampNeg = some r) (hn : pc + 1 = n) (kk : G l M z Q n ls (.ref r :: st) w) : G l M z Q pc ls (.int i :: .ref a :: st) w := by
  subst hn
  intro p e s m args below meth c D ct A ad0 ad H locs la C hA h0 h1 hz hP hD hS hL
  refine va_aldq (C := "ButtressWall$State") C.1 C.2.1 C.2.2.2.2.2.2.2.2.1 hP a 2 (wa_at hw) rfl hin hd ?_
  show W _ _ _ _ _ _ _ _ _ _ _ _ _ _ _ (F0 m (pc + 1) la (va_rf ((f i.toNatClampNeg).map ad) :: st.map (rv ad)))
  rw [hr]
  exact kk p e s m args below meth c D ct A ad0 ad H locs la C hA h0 h1 hz hP hD hS hL
theorem g_aast {a b N : Nat} {f : Nat → Option Nat} {i : Int32} {vs : List Value} (hd : decode (mby M) pc = .ok (.aastore, 1)) (hw : w[a]? = some (.inl (2, N, .inr (.inr (.inr (.inr f)))))) (hb : w[b]? = some (.inr (3, vs))) (hin : vp_in i N) (hn : pc + 1 = n) (kk : G l M z Q n ls st (w.set a (.inl (2, N, .inr (.inr (.inr (.inr (va_up f i.toNatClampNeg (some b))))))))) : G l M z Q pc ls (.ref b :: .int i :: .ref a :: st) w := by
  subst hn
  intro p e s m args below meth c D ct A ad0 ad H locs la C hA h0 h1 hz hP hD hS hL
  refine va_astq (r := (RX3, TX3, 6)) C.1 C.2.1 C.2.2.2.2.2.2.2.2.1 hP hD hS a 2 b 3 (wa_at hw) rfl (wa_at hb) rfl hin hd (fun H1 locs1 hP1 hD1 hS1 => ?_)
  have e1 := wa_set ct ad w a (.inl (2, N, .inr (.inr (.inr (.inr (va_up f i.toNatClampNeg (some b)))))))
  have e2 : rcl ct ad (.inl (2, N, .inr (.inr (.inr (.inr (va_up f i.toNatClampNeg (some b))))))) = .inl (ct 2, N, .inr (.inr (.inr (.inr (va_up (fun j => (f j).map ad) i.toNatClampNeg (some (ad b))))))) := by
    show (Sum.inl (ct 2, N, .inr (.inr (.inr (.inr (fun j => (va_up f i.toNatClampNeg (some b) j).map ad))))) : va_E) = _
    refine congrArg (fun h : Nat → Option Nat => (Sum.inl (ct 2, N, .inr (.inr (.inr (.inr h)))) : va_E)) ?_
    funext j
    unfold va_up
    by_cases hj : j = i.toNatClampNeg
    · simp [hj]
    · simp [hj]
  rw [e2] at e1
  exact kk p e s m args below meth c D ct A ad0 ad H1 locs1 la C hA h0 h1 (by simpa using hz) (e1 ▸ hP1) (e1 ▸ hD1) hS1 hL
theorem g_ialdN {a N j : Nat} {f : Nat → Int32} (hd : decode (mby M) pc = .ok (.iaload, 1)) (hw : w[a]? = some (.inl (0, N, .inl f))) (hn : pc + 1 = n) (hN : N < 2147483648) (hj : j < N) (kk : G l M z Q n ls (.int (f j) :: st) w) : G l M z Q pc ls (.int (nI j) :: .ref a :: st) w :=
  g_iald hd hw (vp_in_nI hj hN) hn (by rw [nI_clamp (by omega)]; exact kk)
theorem g_iastN {a N j : Nat} {f : Nat → Int32} {x : Int32} (hd : decode (mby M) pc = .ok (.iastore, 1)) (hw : w[a]? = some (.inl (0, N, .inl f))) (hn : pc + 1 = n) (hN : N < 2147483648) (hj : j < N) (kk : G l M z Q n ls st (w.set a (.inl (0, N, .inl (upd f j x))))) : G l M z Q pc ls (.int x :: .int (nI j) :: .ref a :: st) w :=
  g_iast hd hw (vp_in_nI hj hN) hn (by rw [nI_clamp (by omega)]; exact kk)
theorem g_caldN {a N j : Nat} {f : Nat → Int32} (hd : decode (mby M) pc = .ok (.caload, 1)) (hw : w[a]? = some (.inl (1, N, .inl f))) (hn : pc + 1 = n) (hN : N < 2147483648) (hj : j < N) (kk : G l M z Q n ls (.int (f j) :: st) w) : G l M z Q pc ls (.int (nI j) :: .ref a :: st) w :=
  g_cald hd hw (vp_in_nI hj hN) hn (by rw [nI_clamp (by omega)]; exact kk)
theorem g_castN {a N j : Nat} {f : Nat → Int32} {x : Int32} (hd : decode (mby M) pc = .ok (.castore, 1)) (hw : w[a]? = some (.inl (1, N, .inl f))) (hn : pc + 1 = n) (hN : N < 2147483648) (hj : j < N) (kk : G l M z Q n ls st (w.set a (.inl (1, N, .inl (upd f j (vp_nar .char x)))))) : G l M z Q pc ls (.int x :: .int (nI j) :: .ref a :: st) w :=
  g_cast hd hw (vp_in_nI hj hN) hn (by rw [nI_clamp (by omega)]; exact kk)
theorem g_aaldN {a N j r : Nat} {f : Nat → Option Nat} (hd : decode (mby M) pc = .ok (.aaload, 1)) (hw : w[a]? = some (.inl (2, N, .inr (.inr (.inr (.inr f)))))) (hn : pc + 1 = n) (hN : N < 2147483648) (hj : j < N) (hr : f j = some r) (kk : G l M z Q n ls (.ref r :: st) w) : G l M z Q pc ls (.int (nI j) :: .ref a :: st) w :=
  g_aald hd hw (vp_in_nI hj hN) (by rw [nI_clamp (by omega)]; exact hr) hn kk
theorem g_aastN {a b N j : Nat} {f : Nat → Option Nat} {vs : List Value} (hd : decode (mby M) pc = .ok (.aastore, 1)) (hw : w[a]? = some (.inl (2, N, .inr (.inr (.inr (.inr f)))))) (hb : w[b]? = some (.inr (3, vs))) (hn : pc + 1 = n) (hN : N < 2147483648) (hj : j < N) (kk : G l M z Q n ls st (w.set a (.inl (2, N, .inr (.inr (.inr (.inr (va_up f j (some b))))))))) : G l M z Q pc ls (.ref b :: .int (nI j) :: .ref a :: st) w :=
  g_aast hd hw hb (vp_in_nI hj hN) hn (by rw [nI_clamp (by omega)]; exact kk)
/-! the library's own: max, min, abs, arraycopy over ints, Object's constructor -/
theorem g_mmax {ix : Nat} {x y : Int32} (hd : decode (mby M) pc = .ok (.invokestatic ix, 3)) (hw1 : Cond.methodLink (mnm M).cls ix Lib.Math.max.name ∈ big) (hw2 : Cond.static Lib.Math.max.name ∈ big) (hw3 : Cond.initialized "java/lang/Math" ∈ big) (hw4 : Cond.code Lib.Math.max.name Lib.Math.max.code 2 (some .int) ∈ big) (hdp : 1 ≤ mdp M) (hst : (st.map fun v => v.category).sum ≤ 8) (hc : z.2.1 ≤ mkc M ∧ z.2.2 ≤ mks M) (hn : pc + 3 = n)
    (kk : G l M z Q n ls (.int (if x < y then y else x) :: st) w) : G l M z Q pc ls (.int y :: .int x :: st) w := by
  subst hn
  intro p e s m args below meth c D ct A ad0 ad H locs la C hA h0 h1 hz hP hD hS hL
  have e1 : (st.map (rv ad)).map (fun v => v.category) = st.map (fun v => v.category) := by rw [List.map_map]; exact List.map_congr_left (fun v _ => rv_cat ad v)
  exact va_mmax C.1 C.2.1 (C.2.2.2.1.trans hL.1.symm) C.2.2.2.2.1 (C.2.2.2.2.2.1 _ hw1) (C.2.2.2.2.2.1 _ hw2) (C.2.2.2.2.2.1 _ hw3) (C.2.2.2.2.2.1 _ hw4) hdp (by rw [e1]; show _ ≤ 48 * mdp M; omega) hc.1 hc.2 hd (kk p e s m args below meth c D ct A ad0 ad H locs la C hA h0 h1 hz hP hD hS hL)
theorem g_mmin {ix : Nat} {x y : Int32} (hd : decode (mby M) pc = .ok (.invokestatic ix, 3)) (hw1 : Cond.methodLink (mnm M).cls ix Lib.Math.min.name ∈ big) (hw2 : Cond.static Lib.Math.min.name ∈ big) (hw3 : Cond.initialized "java/lang/Math" ∈ big) (hw4 : Cond.code Lib.Math.min.name Lib.Math.min.code 2 (some .int) ∈ big) (hdp : 1 ≤ mdp M) (hst : (st.map fun v => v.category).sum ≤ 8) (hc : z.2.1 ≤ mkc M ∧ z.2.2 ≤ mks M) (hn : pc + 3 = n)
    (kk : G l M z Q n ls (.int (if y < x then y else x) :: st) w) : G l M z Q pc ls (.int y :: .int x :: st) w := by
  subst hn
  intro p e s m args below meth c D ct A ad0 ad H locs la C hA h0 h1 hz hP hD hS hL
  have e1 : (st.map (rv ad)).map (fun v => v.category) = st.map (fun v => v.category) := by rw [List.map_map]; exact List.map_congr_left (fun v _ => rv_cat ad v)
  exact va_mmin C.1 C.2.1 (C.2.2.2.1.trans hL.1.symm) C.2.2.2.2.1 (C.2.2.2.2.2.1 _ hw1) (C.2.2.2.2.2.1 _ hw2) (C.2.2.2.2.2.1 _ hw3) (C.2.2.2.2.2.1 _ hw4) hdp (by rw [e1]; show _ ≤ 48 * mdp M; omega) hc.1 hc.2 hd (kk p e s m args below meth c D ct A ad0 ad H locs la C hA h0 h1 hz hP hD hS hL)
theorem g_mabs {ix : Nat} {x : Int32} (hd : decode (mby M) pc = .ok (.invokestatic ix, 3)) (hw1 : Cond.methodLink (mnm M).cls ix Lib.Math.abs.name ∈ big) (hw2 : Cond.static Lib.Math.abs.name ∈ big) (hw3 : Cond.initialized "java/lang/Math" ∈ big) (hw4 : Cond.code Lib.Math.abs.name Lib.Math.abs.code 1 (some .int) ∈ big) (hdp : 1 ≤ mdp M) (hst : (st.map fun v => v.category).sum ≤ 8) (hc : z.2.1 ≤ mkc M ∧ z.2.2 ≤ mks M) (hn : pc + 3 = n)
    (kk : G l M z Q n ls (.int (if 0 ≤ x then x else 0 - x) :: st) w) : G l M z Q pc ls (.int x :: st) w := by
  subst hn
  intro p e s m args below meth c D ct A ad0 ad H locs la C hA h0 h1 hz hP hD hS hL
  have e1 : (st.map (rv ad)).map (fun v => v.category) = st.map (fun v => v.category) := by rw [List.map_map]; exact List.map_congr_left (fun v _ => rv_cat ad v)
  exact va_mabs C.1 C.2.1 (C.2.2.2.1.trans hL.1.symm) C.2.2.2.2.1 (C.2.2.2.2.2.1 _ hw1) (C.2.2.2.2.2.1 _ hw2) (C.2.2.2.2.2.1 _ hw3) (C.2.2.2.2.2.1 _ hw4) hdp (by rw [e1]; show _ ≤ 48 * mdp M; omega) hc.1 hc.2 hd (kk p e s m args below meth c D ct A ad0 ad H locs la C hA h0 h1 hz hP hD hS hL)
theorem g_copy {ix a b N0 N1 sp dp k : Nat} {f g : Nat → Int32} (hd : decode (mby M) pc = .ok (.invokestatic ix, 3)) (hw1 : Cond.methodLink (mnm M).cls ix arraycopyName ∈ big) (hw2 : Cond.native arraycopyName ∈ big) (hw3 : Cond.static arraycopyName ∈ big) (hw4 : Cond.initialized "java/lang/System" ∈ big) (hdp : 1 ≤ mdp M) (hst : (st.map fun v => v.category).sum ≤ 8)
    (ha : w[a]? = some (.inl (0, N0, .inl f))) (hb : w[b]? = some (.inl (0, N1, .inl g))) (h4 : sp + k ≤ N0) (h5 : dp + k ≤ N1) (h6 : N0 < 2147483648) (h7 : N1 < 2147483648) (hn : pc + 3 = n)
    (kk : G l M z Q n ls st (w.set b (.inl (0, N1, .inl (va_cpy f g sp dp k))))) : G l M z Q pc ls (.int (nI k) :: .int (nI dp) :: .ref b :: .int (nI sp) :: .ref a :: st) w := by
  subst hn
  intro p e s m args below meth c D ct A ad0 ad H locs la C hA h0 h1 hz hP hD hS hL
  have e1 : (st.map (rv ad)).map (fun v => v.category) = st.map (fun v => v.category) := by rw [List.map_map]; exact List.map_congr_left (fun v _ => rv_cat ad v)
  have c1 : (nI sp).toNatClampNeg = sp := nI_clamp (by omega)
  have c2 : (nI dp).toNatClampNeg = dp := nI_clamp (by omega)
  have c3 : (nI k).toNatClampNeg = k := nI_clamp (by omega)
  have hfw : nativeFrameWords "java/lang/System" "arraycopy" 5 ≤ 29 := by decide
  have hlo : ((st.map (rv ad)).map fun v => v.category).sum + (nativeFrameWords "java/lang/System" "arraycopy" 5 + 11) ≤ (rmd (mdp M) (mkc M) (mks M)).locals := by
    rw [e1]
    show _ ≤ 48 * mdp M
    omega
  refine va_copyi (ty := .int) (sp := nI sp) (dp := nI dp) (n := nI k) C.1 C.2.1 (C.2.2.2.1.trans hL.1.symm) C.2.2.2.2.1 (C.2.2.2.2.2.1 _ hw1) (C.2.2.2.2.2.1 _ hw2) (C.2.2.2.2.2.1 _ hw3) (C.2.2.2.2.2.1 _ hw4) C.2.2.2.2.2.2.2.2.1 hP hD hS a b 0 0 (wa_at ha) (wa_at hb) rfl rfl rfl (nI_pos (by omega)) (nI_pos (by omega)) (nI_pos (by omega)) (by rw [c1, c3]; exact h4) (by rw [c2, c3]; exact h5) (fun i _ => rfl) hdp hlo hd (fun H1 locs1 hP1 hD1 hS1 => ?_)
  rw [c1, c2, c3] at hP1 hD1
  have e2 := wa_set ct ad w b (.inl (0, N1, .inl (va_cpy f g sp dp k)))
  exact kk p e s m args below meth c D ct A ad0 ad H1 locs1 la C hA h0 h1 (by simpa using hz) (e2 ▸ hP1) (e2 ▸ hD1) hS1 hL
theorem g_objInit {ix a : Nat} (hd : decode (mby M) pc = .ok (.invokespecial ix, 3)) (hw1 : Cond.methodLink (mnm M).cls ix Lib.objectInit ∈ big) (hw2 : Cond.instanceMethod Lib.objectInit ∈ big) (hw3 : Cond.code Lib.objectInit ⟨#[0xb1]⟩ 1 none ∈ big) (hdp : 1 ≤ mdp M) (hst : (st.map fun v => v.category).sum ≤ 8) (hn : pc + 3 = n) (kk : G l M z Q n ls st w) : G l M z Q pc ls (.ref a :: st) w := by
  subst hn
  intro p e s m args below meth c D ct A ad0 ad H locs la C hA h0 h1 hz hP hD hS hL
  have e1 : (st.map (rv ad)).map (fun v => v.category) = st.map (fun v => v.category) := by rw [List.map_map]; exact List.map_congr_left (fun v _ => rv_cat ad v)
  refine W.objInit C.1 C.2.1 C.2.2.2.2.1 (C.2.2.2.2.2.1 _ hw1) (C.2.2.2.2.2.1 _ hw2) (C.2.2.2.2.2.1 _ hw3) rfl (hL.1.trans C.2.2.2.1.symm) rfl hd hdp ?_ ?_
  · show 2 * 0 + ((st.map (rv ad)).map fun v => v.category).sum + 12 ≤ 48 * mdp M
    rw [e1]; omega
  · exact W.eq (g2 := F0 m (pc + 3) la (st.map (rv ad))) rfl (kk p e s m args below meth c D ct A ad0 ad H locs la C hA h0 h1 hz hP hD hS hL)
end RH
end
section
/-! 07.calls: a call by contract -/
/-- of which cell 'ps' of the caller's world the callee's cell j is -/
def sg (ps : List Nat) (j : Nat) : Nat := ps.getD j 0
def ren (ps : List Nat) (x : va_E) : va_E := rcl id (sg ps) x
def putL (w : List va_E) (ps : List Nat) (cw : List va_E) : List va_E := (ps.zip cw).foldl (fun w q => w.set q.1 (ren ps q.2)) w
theorem rv_rv (ad : Nat → Nat) (ps : List Nat) (v : Value) : rv ad (rv (sg ps) v) = rv (fun j => ad (sg ps j)) v := by cases v <;> rfl
theorem rcl_ren (ct ad : Nat → Nat) (ps : List Nat) (x : va_E) : rcl ct ad (ren ps x) = rcl ct (fun j => ad (sg ps j)) x := by
  rcases x with ⟨t, n, f | f | f | f | f⟩ | ⟨c, fs⟩
  · rfl
  · rfl
  · rfl
  · rfl
  · show (Sum.inl (ct t, n, .inr (.inr (.inr (.inr (fun j => ((f j).map (sg ps)).map ad))))) : va_E) = Sum.inl (ct t, n, .inr (.inr (.inr (.inr (fun j => (f j).map (fun j => ad (sg ps j)))))))
    refine congrArg (fun h : Nat → Option Nat => (Sum.inl (ct t, n, .inr (.inr (.inr (.inr h)))) : va_E)) ?_
    funext j
    cases f j <;> rfl
  · show (Sum.inr (c, (fs.map (rv (sg ps))).map (rv ad)) : va_E) = Sum.inr (c, fs.map (rv (fun j => ad (sg ps j))))
    rw [List.map_map]
    refine congrArg (fun h : List Value => (Sum.inr (c, h) : va_E)) (List.map_congr_left (fun v _ => rv_rv ad ps v))
theorem foldl_set_len (f : va_E → va_E) : ∀ (L : List (Nat × va_E)) (w : List va_E), (L.foldl (fun w q => w.set q.1 (f q.2)) w).length = w.length
  | [], _ => rfl
  | q :: L, w => by
    rw [List.foldl_cons, foldl_set_len f L]
    simp
theorem foldl_set_out (f : va_E → va_E) (k : Nat) : ∀ (L : List (Nat × va_E)) (w : List va_E), (∀ q ∈ L, q.1 ≠ k) → (L.foldl (fun w q => w.set q.1 (f q.2)) w)[k]? = w[k]?
  | [], _, _ => rfl
  | q :: L, w, h => by
    rw [List.foldl_cons, foldl_set_out f k L _ (fun x hx => h x (List.mem_cons_of_mem _ hx)), List.getElem?_set_ne (h q List.mem_cons_self)]
theorem foldl_set_in (f : va_E → va_E) (k : Nat) (y : va_E) : ∀ (L : List (Nat × va_E)) (w : List va_E), (L.map (fun q => q.1)).Nodup → (k, y) ∈ L → k < w.length → (L.foldl (fun w q => w.set q.1 (f q.2)) w)[k]? = some (f y)
  | [], _, _, h, _ => by cases h
  | q :: L, w, hn, h, hk => by
    rw [List.foldl_cons]
    rw [List.map_cons, List.nodup_cons] at hn
    rcases List.mem_cons.mp h with h1 | h1
    · subst h1
      rw [foldl_set_out f k L _ (fun x hx q => hn.1 (List.mem_map.mpr ⟨x, hx, q⟩)), List.getElem?_set_self hk]
    · exact foldl_set_in f k y L _ hn.2 h1 (by simpa using hk)
theorem nd_nodup : ∀ (ps : List Nat), va_nd ps = true → ps.Nodup
  | [], _ => List.nodup_nil
  | a :: ps, h => by
    simp only [va_nd, Bool.and_eq_true, decide_eq_true_eq] at h
    exact List.nodup_cons.mpr ⟨h.1, nd_nodup ps h.2⟩
theorem va_D_addr {A : Nat → Prop} {ct ad : Nat → Nat} {w w2 : List va_E} (hl : w2.length = w.length) (h : va_D A (wa ct ad w)) : va_D A (wa ct ad w2) := by
  have key : ∀ (k : Nat) (q : Nat × va_E), (wa ct ad w2)[k]? = some q → ∃ q0, (wa ct ad w)[k]? = some q0 ∧ q0.1 = q.1 := by
    intro k q hk
    have hkl : k < w.length := by
      have := (List.getElem?_eq_some_iff.mp hk).1
      rw [wa_len] at this
      omega
    rw [wa_get] at hk
    obtain ⟨x, -, rfl⟩ := Option.map_eq_some_iff.mp hk
    exact ⟨_, wa_at (List.getElem?_eq_getElem hkl), rfl⟩
  refine ⟨fun i j p q hp hq e => ?_, fun k q hk => ?_⟩
  · obtain ⟨p0, e1, e2⟩ := key i p hp
    obtain ⟨q0, e3, e4⟩ := key j q hq
    exact h.1 i j p0 q0 e1 e3 (e2.trans (e.trans e4.symm))
  · obtain ⟨q0, e1, e2⟩ := key k q hk
    rw [← e2]
    exact h.2 k q0 e1
section RC
variable {p : Program} {l : Launch} {e : Env} {R : Room} {s : State} {m : MethodId} {args : Array Value} {below : List Frame} {meth : Method} {c : Code} {H : Heap} {locs : List Loc} {kc ks pc : Nat} {Qs : State → Prop} {la : Array Slot} {st0 rest : List Value} {D : va_G} {ct ad : Nat → Nat} {A : Nat → Prop} {a : Array Value} {Q' : Option Value → List va_E → Prop}
/-- behind a call that makes nothing: what came back, in the callee's own numbering -/
theorem run_back {cw : List va_E} (hr : va_Run p l e R s m args below meth c H locs kc ks 0 0 (F0 m pc la st0) rest (Qm D ct (va_A (wa ct ad cw) H.size) ad cw.length 0 Q' a) (va_A (wa ct ad cw) H.size)) (hS : va_S A s.heap H locs) (hF : ∀ q, va_A (wa ct ad cw) H.size q → A q)
    (kk : ∀ (r : Option Value) (cw' : List va_E) (H1 : Heap) (locs1 : List Loc), Q' r cw' → va_P D vwCl (wa ct ad cw') H1 → va_D (va_A (wa ct ad cw) H.size) (wa ct ad cw') → (∀ q : Nat, q < H.size → ¬ va_A (wa ct ad cw) H.size q → H1[q]? = H[q]?) → va_S A s.heap H1 locs1 → W p l e R s m args below meth c H1 locs1 kc ks Qs (F0 m (pc + 3) la ((r.map (rv ad)).toList ++ rest))) :
    W p l e R s m args below meth c H locs kc ks Qs (F0 m pc la st0) := by
  intro T hT X
  obtain ⟨v, st₀, t, T', L, h0, X', hL, e1, e2, ⟨⟨r, cw', ad', hv, hq, -, had, hP1, hD1⟩, hz, hk⟩, st⟩ := hr T hT X
  have had := had rfl
  subst had
  cases hv
  rw [h0] at hz hk
  obtain ⟨t2, a1, b1⟩ := kk r cw' T'.heap (locs ++ L) hq (by rw [e1]; exact hP1) hD1 (fun q h1 h2 => by rw [e1]; exact hk q h1 h2)
    ⟨Nat.le_trans hS.1 (by rw [e1]; exact hz), fun q h1 h2 => by rw [e1, hk q (Nat.lt_of_lt_of_le h1 hS.1) (fun z => h2 (hF q z))]; exact hS.2.1 q h1 h2, fun q hq => by
      rcases List.mem_append.mp hq with h | h
      · exact hS.2.2 q h
      · exact hF _ (hL q h)⟩ T' rfl X'
  exact ⟨t2, st t2 a1, b1⟩
end RC
/-! the callee's cells out of the caller's -/
theorem wa_cut {ct ad : Nat → Nat} {w cw : List va_E} {ps : List Nat} (hw : ps.map (fun i => w[i]?) = cw.map (fun x => some (ren ps x))) : ps.map (fun i => (wa ct ad w)[i]?) = (wa ct (fun j => ad (sg ps j)) cw).map some := by
  apply List.ext_getElem?
  intro j
  have hj := congrArg (fun L : List (Option va_E) => L[j]?) hw
  simp only [List.getElem?_map] at hj
  rw [List.getElem?_map, List.getElem?_map, wa_get]
  cases hp : ps[j]? with
  | none =>
    rw [hp] at hj
    cases hc : cw[j]? with
    | none => rfl
    | some x => rw [hc] at hj; cases hj
  | some i =>
    rw [hp] at hj
    cases hc : cw[j]? with
    | none => rw [hc] at hj; cases hj
    | some x =>
      rw [hc] at hj
      have h1 : w[i]? = some (ren ps x) := by simpa using hj
      have h2 : sg ps j = i := by simp [sg, List.getD, hp]
      show some ((wa ct ad w)[i]?) = some (some (ad (sg ps j), rcl ct (fun j => ad (sg ps j)) x))
      rw [wa_at h1, rcl_ren, h2]
theorem wa_join {D : va_G} {ct ad : Nat → Nat} {A : Nat → Prop} {w cw cw' : List va_E} {ps : List Nat} {H H1 : Heap} (hw : ps.map (fun i => w[i]?) = cw.map (fun x => some (ren ps x))) (hnd : va_nd ps = true) (hl : cw'.length = cw.length)
    (hP : va_P D vwCl (wa ct ad w) H) (hD : va_D A (wa ct ad w)) (hP1 : va_P D vwCl (wa ct (fun j => ad (sg ps j)) cw') H1) (hk : ∀ q : Nat, q < H.size → ¬ va_A (wa ct (fun j => ad (sg ps j)) cw) H.size q → H1[q]? = H[q]?) :
    va_P D vwCl (wa ct ad (putL w ps cw')) H1 ∧ va_D A (wa ct ad (putL w ps cw')) := by
  have hlen : ps.length = cw'.length := by
    have := congrArg List.length hw
    simp only [List.length_map] at this
    omega
  have hcut := wa_cut (ct := ct) (ad := ad) hw
  refine ⟨fun k q hkq => ?_, va_D_addr (foldl_set_len _ _ _) hD⟩
  rw [wa_get] at hkq
  obtain ⟨x, hx, rfl⟩ := Option.map_eq_some_iff.mp hkq
  have hkw : k < w.length := by
    have := (List.getElem?_eq_some_iff.mp hx).1
    rw [putL, foldl_set_len] at this
    exact this
  by_cases hin : k ∈ ps
  · obtain ⟨j, hj⟩ := List.getElem?_of_mem hin
    have hjl : j < cw'.length := by rw [← hlen]; exact (List.getElem?_eq_some_iff.mp hj).1
    have hy : cw'[j]? = some cw'[j] := List.getElem?_eq_getElem hjl
    have hmem : (k, cw'[j]) ∈ ps.zip cw' := by
      refine List.mem_of_getElem? (i := j) ?_
      rw [List.getElem?_zip_eq_some]
      exact ⟨hj, hy⟩
    have hnod : ((ps.zip cw').map (fun q => q.1)).Nodup := by
      rw [List.map_fst_zip (by omega)]
      exact nd_nodup ps hnd
    have h1 := foldl_set_in (ren ps) k cw'[j] (ps.zip cw') w hnod hmem hkw
    rw [putL, h1] at hx
    cases hx
    have h2 : sg ps j = k := by simp [sg, List.getD, hj]
    have h3 := hP1 j _ (wa_at (ct := ct) (ad := fun j => ad (sg ps j)) hy)
    rw [← rcl_ren] at h3
    rw [show ad (sg ps j) = ad k by rw [h2]] at h3
    exact h3
  · have h1 := foldl_set_out (ren ps) k (ps.zip cw') w (fun q hq e => hin (by rw [← e]; exact (List.of_mem_zip hq).1))
    rw [putL, h1] at hx
    have h2 := hP k _ (wa_at (ct := ct) (ad := ad) hx)
    refine h2.kept (hk _ h2.lt (fun h => ?_))
    rcases h with ⟨j, e1, h⟩ | h
    · have h4 : (ps.map (fun i => (wa ct ad w)[i]?))[j]? = some (some (ad k, e1)) := by rw [hcut, List.getElem?_map, h]; rfl
      rw [List.getElem?_map] at h4
      obtain ⟨i, hi, hi2⟩ := Option.map_eq_some_iff.mp h4
      have := hD.1 k i _ _ (wa_at hx) hi2 rfl
      exact hin (this ▸ List.mem_of_getElem? hi)
    · have := h2.lt
      exact absurd h (by omega)
end
section
/-! 08.invoke: the kinds of call -/
def CB (M' : MC) (nA : Nat) : Prop := Cond.initialized (mnm M').cls ∈ big ∧ Cond.code (mnm M') (mby M') (mlo M') (mrt M') ∈ big ∧ ((mnm M').cls ≠ "java/lang/invoke/MethodHandle" ∧ (mnm M').cls ≠ "java/lang/invoke/VarHandle" ∧ (parseMethodDescriptor (mnm M').desc).map (fun d => d.parameters.length) = some nA)
def CV (own : String) (ix : Nat) (M' : MC) (nA : Nat) : Prop := CB M' nA ∧ Cond.methodLink own ix (mnm M') ∈ big ∧ Cond.instanceMethod (mnm M') ∈ big ∧ Cond.selects (mnm M').cls (mnm M') (mnm M') ∈ big
def CS (own : String) (ix : Nat) (M' : MC) (nA : Nat) : Prop := CB M' nA ∧ Cond.methodLink own ix (mnm M') ∈ big ∧ Cond.static (mnm M') ∈ big
def CSN (own : String) (ix : Nat) (M' : MC) (nA : Nat) : Prop := CB M' nA ∧ (own, ix, mnm M', RX8) ∈ nestW ∧ Cond.static (mnm M') ∈ big
def CIN (own : String) (ix : Nat) (M' : MC) (nA : Nat) : Prop := CB M' nA ∧ (own, ix, mnm M', RX8) ∈ nestW ∧ Cond.instanceMethod (mnm M') ∈ big ∧ (mnm M').name = "<init>" ∧ mrt M' = none
def CI (own : String) (ix : Nat) (M' : MC) (nA : Nat) : Prop := CB M' nA ∧ Cond.methodLink own ix (mnm M') ∈ big ∧ Cond.instanceMethod (mnm M') ∈ big ∧ (mnm M').name = "<init>" ∧ mrt M' = none
theorem good_big {y : MethodName} {b : ByteArray} {k : Nat} {r : Option FieldType} (h : Cond.code y b k r ∈ big) : GoodIn big (.code y b k r :: big) := fun w hw => by
  rcases List.mem_cons.mp hw with rfl | h1
  · exact ⟨h, big_good h⟩
  · exact ⟨h1, big_good h1⟩
theorem Pm_blind {D : va_G} {ct ad : Nat → Nat} {sz : Nat} {av : List Value} {w : List va_E} : FrameBlind (Pm D ct ad sz av w) := fun a U g mk q => ⟨q.1, q.2.1, q.2.2.1, q.2.2.2.1.calling, q.2.2.2.2⟩
theorem cat_map (ad : Nat → Nat) (st : List Value) : (st.map (rv ad)).map (fun v => v.category) = st.map (fun v => v.category) := by rw [List.map_map]; exact List.map_congr_left (fun v _ => rv_cat ad v)
theorem stk_map (ad : Nat → Nat) (ps : List Nat) (cav : List Value) : ((cav.map (rv (sg ps))).reverse).map (rv ad) = (cav.map (rv (fun j => ad (sg ps j)))).reverse := by
  rw [List.map_reverse, List.map_map]
  exact congrArg List.reverse (List.map_congr_left (fun v _ => rv_rv ad ps v))
theorem ret_map (ad : Nat → Nat) (ps : List Nat) (r : Option Value) (rest : List Value) : (r.map (rv (fun j => ad (sg ps j)))).toList ++ rest.map (rv ad) = ((r.map (rv (sg ps))).toList ++ rest).map (rv ad) := by
  cases r with
  | none => rfl
  | some v =>
    show rv _ v :: rest.map (rv ad) = rv ad (rv (sg ps) v) :: rest.map (rv ad)
    rw [rv_rv]
section RI
variable {l : Launch} {M M' : MC} {z : Nat × Nat × Nat} {Q Q' : Option Value → List va_E → Prop} {pc n ix nA : Nat} {ls : List (Option Value)} {st rest : List Value} {w cw : List va_E} {ps : List Nat} {cav : List Value}
/-- an instance method, on cells 'ps' of the world -/
theorem g_callV {b0 ci : Nat} {fs : List Value} (hcall : CV (mnm M).cls ix M' nA) (hcon : Con l M' (.ref b0 :: cav) cw Q') (hd : decode (mby M) pc = .ok (.invokevirtual ix, 3)) (hst : st = (cav.map (rv (sg ps))).reverse ++ .ref (sg ps b0) :: rest) (hw : ps.map (fun i => w[i]?) = cw.map (fun x => some (ren ps x))) (hnd : va_nd ps = true)
    (hdp : mdp M' + 1 ≤ mdp M ∧ mlo M' ≤ 29 ∧ mkc M' = 0 ∧ mks M' = 0 ∧ z.2.1 ≤ mkc M ∧ z.2.2 ≤ mks M) (hrc : cw[b0]? = some (.inr (ci, fs))) (hci : (vwCl[ci]?).map (fun r => r.1) = some (mnm M').cls) (hna : cav.length = nA) (hrs : (rest.map fun v => v.category).sum ≤ 8) (hn : pc + 3 = n)
    (kk : ∀ (r : Option Value) (cw' : List va_E), Q' r cw' → cw'.length = cw.length ∧ G l M z Q n ls ((r.map (rv (sg ps))).toList ++ rest) (putL w ps cw')) : G l M z Q pc ls st w := by
  subst hn
  subst hst
  obtain ⟨⟨hini, hcode, hy⟩, hlk, him, hsel⟩ := hcall
  obtain ⟨d1, d2, d3, d4, d5, d6⟩ := hdp
  intro p e s m args below meth c D ct A ad0 ad H locs la C hA h0 h1 hz hP hD hS hL
  have hts := C.2.2.2.2.2.1
  have hcut := wa_cut (ct := ct) (ad := ad) hw
  have hPc := hP.sub (ws' := wa ct (fun j => ad (sg ps j)) cw) ps (by
    have := congrArg (fun L : List (Option (Nat × va_E)) => L.filterMap id) hcut
    simpa [List.filterMap_map] using this)
  have hDc := hD.sub ps hnd hcut
  have hF := va_free (wc := wa ct (fun j => ad (sg ps j)) cw) hD hS hA ps hcut
  obtain ⟨q0, hq0⟩ : ∃ q0, vwCl[ci]? = some q0 := by
    cases hx : vwCl[ci]? with
    | none => rw [hx] at hci; cases hci
    | some q => exact ⟨q, rfl⟩
  have hq1 : q0.1 = (mnm M').cls := by rw [hq0] at hci; exact Option.some.inj hci
  have hM := hcon D ct (fun j => ad (sg ps j)) H.size
  rw [d3, d4] at hM
  refine run_back (cw := cw) (rest := rest.map (rv ad)) (va_runV (C := (mnm M').cls) (b := ad (sg ps b0)) (As := cav.map (rv (fun j => ad (sg ps j)))) ⟨C.1, C.2.1, C.2.2.2.1, C.2.2.2.2.1, hts⟩ hM
    ⟨callB_of nA hts (good_big hcode) rfl rfl rfl (hts _ hini) (hts _ hlk) hy ⟨d1, by show 8 + (mlo M' + 11) + 48 * mdp M' ≤ 48 * mdp M; omega⟩, hts _ him, hts _ hsel⟩
    ⟨Pm_blind, by rw [← hq1]; exact va_recv C.2.2.2.2.2.2.2.2.1 hPc hq0 (wa_at hrc), fun U hU hW => ⟨rfl, by rw [hU], by rw [hU]; exact hPc, KB.moved hW C.2.2.2.2.2.2.2.2, hDc.weaken (fun _ _ _ _ => trivial)⟩⟩
    rfl (by rw [List.length_map]; exact hna) hL.1 (by show List.map (rv ad) _ = _; rw [List.map_append, stk_map]; rfl) (by show 2 * 0 + _ ≤ 8; rw [cat_map]; omega) hd ⟨d5, d6⟩) hS hF (fun r cw' H1 locs1 hq hP1 hD1 hk1 hS1 => ?_)
  obtain ⟨hlen, hG⟩ := kk r cw' hq
  obtain ⟨hP2, hD2⟩ := wa_join hw hnd hlen hP hD hP1 hk1
  rw [ret_map]
  exact hG p e s m args below meth c D ct A ad0 ad H1 locs1 la C hA h0 h1 (by rw [putL, foldl_set_len]; exact hz) hP2 hD2 hS1 hL
theorem g_callS (hcall : CS (mnm M).cls ix M' nA) (hcon : Con l M' cav cw Q') (hd : decode (mby M) pc = .ok (.invokestatic ix, 3)) (hst : st = (cav.map (rv (sg ps))).reverse ++ rest) (hw : ps.map (fun i => w[i]?) = cw.map (fun x => some (ren ps x))) (hnd : va_nd ps = true)
    (hdp : mdp M' + 1 ≤ mdp M ∧ mlo M' ≤ 29 ∧ mkc M' = 0 ∧ mks M' = 0 ∧ z.2.1 ≤ mkc M ∧ z.2.2 ≤ mks M) (hna : cav.length = nA) (hrs : (rest.map fun v => v.category).sum ≤ 8) (hn : pc + 3 = n)
    (kk : ∀ (r : Option Value) (cw' : List va_E), Q' r cw' → cw'.length = cw.length ∧ G l M z Q n ls ((r.map (rv (sg ps))).toList ++ rest) (putL w ps cw')) : G l M z Q pc ls st w := by
  subst hn
  subst hst
  obtain ⟨⟨hini, hcode, hy⟩, hlk, hstt⟩ := hcall
  obtain ⟨d1, d2, d3, d4, d5, d6⟩ := hdp
  intro p e s m args below meth c D ct A ad0 ad H locs la C hA h0 h1 hz hP hD hS hL
  have hts := C.2.2.2.2.2.1
  have hcut := wa_cut (ct := ct) (ad := ad) hw
  have hPc := hP.sub (ws' := wa ct (fun j => ad (sg ps j)) cw) ps (by
    have := congrArg (fun L : List (Option (Nat × va_E)) => L.filterMap id) hcut
    simpa [List.filterMap_map] using this)
  have hDc := hD.sub ps hnd hcut
  have hF := va_free (wc := wa ct (fun j => ad (sg ps j)) cw) hD hS hA ps hcut
  have hM := hcon D ct (fun j => ad (sg ps j)) H.size
  rw [d3, d4] at hM
  refine run_back (cw := cw) (rest := rest.map (rv ad)) (va_runS (As := cav.map (rv (fun j => ad (sg ps j)))) ⟨C.1, C.2.1, C.2.2.2.1, C.2.2.2.2.1, hts⟩ hM
    ⟨callB_of nA hts (good_big hcode) rfl rfl rfl (hts _ hini) (hts _ hlk) hy ⟨d1, by show 8 + (mlo M' + 11) + 48 * mdp M' ≤ 48 * mdp M; omega⟩, hts _ hstt⟩
    ⟨Pm_blind, fun U hU hW => ⟨rfl, by rw [hU], by rw [hU]; exact hPc, KB.moved hW C.2.2.2.2.2.2.2.2, hDc.weaken (fun _ _ _ _ => trivial)⟩⟩
    rfl (by rw [List.length_map]; exact hna) hL.1 (by show List.map (rv ad) _ = _; rw [List.map_append, stk_map]) (by show 2 * 0 + _ ≤ 8; rw [cat_map]; omega) hd ⟨d5, d6⟩) hS hF (fun r cw' H1 locs1 hq hP1 hD1 hk1 hS1 => ?_)
  obtain ⟨hlen, hG⟩ := kk r cw' hq
  obtain ⟨hP2, hD2⟩ := wa_join hw hnd hlen hP hD hP1 hk1
  rw [ret_map]
  exact hG p e s m args below meth c D ct A ad0 ad H1 locs1 la C hA h0 h1 (by rw [putL, foldl_set_len]; exact hz) hP2 hD2 hS1 hL
theorem g_callSN (hcall : CSN (mnm M).cls ix M' nA) (hcon : Con l M' cav cw Q') (hd : decode (mby M) pc = .ok (.invokestatic ix, 3)) (hst : st = (cav.map (rv (sg ps))).reverse ++ rest) (hw : ps.map (fun i => w[i]?) = cw.map (fun x => some (ren ps x))) (hnd : va_nd ps = true)
    (hdp : mdp M' + 1 ≤ mdp M ∧ mlo M' ≤ 29 ∧ mkc M' = 0 ∧ mks M' = 0 ∧ z.2.1 ≤ mkc M ∧ z.2.2 ≤ mks M) (hna : cav.length = nA) (hrs : (rest.map fun v => v.category).sum ≤ 8) (hn : pc + 3 = n)
    (kk : ∀ (r : Option Value) (cw' : List va_E), Q' r cw' → cw'.length = cw.length ∧ G l M z Q n ls ((r.map (rv (sg ps))).toList ++ rest) (putL w ps cw')) : G l M z Q pc ls st w := by
  subst hn
  subst hst
  obtain ⟨⟨hini, hcode, hy⟩, hlk, hstt⟩ := hcall
  obtain ⟨d1, d2, d3, d4, d5, d6⟩ := hdp
  intro p e s m args below meth c D ct A ad0 ad H locs la C hA h0 h1 hz hP hD hS hL
  have hts := C.2.2.2.2.2.1
  have hcut := wa_cut (ct := ct) (ad := ad) hw
  have hPc := hP.sub (ws' := wa ct (fun j => ad (sg ps j)) cw) ps (by
    have := congrArg (fun L : List (Option (Nat × va_E)) => L.filterMap id) hcut
    simpa [List.filterMap_map] using this)
  have hDc := hD.sub ps hnd hcut
  have hF := va_free (wc := wa ct (fun j => ad (sg ps j)) cw) hD hS hA ps hcut
  have hM := hcon D ct (fun j => ad (sg ps j)) H.size
  rw [d3, d4] at hM
  refine run_back (cw := cw) (rest := rest.map (rv ad)) (va_runSN (host := RX8) (As := cav.map (rv (fun j => ad (sg ps j)))) ⟨C.1, C.2.1, C.2.2.2.1, C.2.2.2.2.1, hts⟩ hM
    ⟨va_cnB nA hts (good_big hcode) rfl rfl rfl (C.2.2.2.2.2.2.2.2.2.1 _ hlk) (hts _ hini) hy ⟨d1, by show 8 + (mlo M' + 11) + 48 * mdp M' ≤ 48 * mdp M; omega⟩, hts _ hstt, trivial⟩
    ⟨Pm_blind, fun U hU hW => ⟨rfl, by rw [hU], by rw [hU]; exact hPc, KB.moved hW C.2.2.2.2.2.2.2.2, hDc.weaken (fun _ _ _ _ => trivial)⟩⟩
    rfl (by rw [List.length_map]; exact hna) hL.1 (by show List.map (rv ad) _ = _; rw [List.map_append, stk_map]) (by show 2 * 0 + _ ≤ 8; rw [cat_map]; omega) hd ⟨d5, d6⟩) hS hF (fun r cw' H1 locs1 hq hP1 hD1 hk1 hS1 => ?_)
  obtain ⟨hlen, hG⟩ := kk r cw' hq
  obtain ⟨hP2, hD2⟩ := wa_join hw hnd hlen hP hD hP1 hk1
  rw [ret_map]
  exact hG p e s m args below meth c D ct A ad0 ad H1 locs1 la C hA h0 h1 (by rw [putL, foldl_set_len]; exact hz) hP2 hD2 hS1 hL
/-- an instance method on the very same world -/
theorem g_callW {b0 ci : Nat} {fs : List Value} (hcall : CV (mnm M).cls ix M' nA) (hcon : Con l M' (.ref b0 :: cav) w Q') (hd : decode (mby M) pc = .ok (.invokevirtual ix, 3)) (hst : st = cav.reverse ++ .ref b0 :: rest)
    (hdp : mdp M' + 1 ≤ mdp M ∧ mlo M' ≤ 29 ∧ mkc M' = 0 ∧ mks M' = 0 ∧ z.2.1 ≤ mkc M ∧ z.2.2 ≤ mks M) (hrc : w[b0]? = some (.inr (ci, fs))) (hci : (vwCl[ci]?).map (fun r => r.1) = some (mnm M').cls) (hna : cav.length = nA) (hrs : (rest.map fun v => v.category).sum ≤ 8) (hn : pc + 3 = n)
    (kk : ∀ (r : Option Value) (w' : List va_E), Q' r w' → w'.length = w.length ∧ G l M z Q n ls (r.toList ++ rest) w') : G l M z Q pc ls st w := by
  subst hn
  subst hst
  obtain ⟨⟨hini, hcode, hy⟩, hlk, him, hsel⟩ := hcall
  obtain ⟨d1, d2, d3, d4, d5, d6⟩ := hdp
  intro p e s m args below meth c D ct A ad0 ad H locs la C hA h0 h1 hz hP hD hS hL
  have hts := C.2.2.2.2.2.1
  have hF : ∀ q, va_A (wa ct ad w) H.size q → A q := fun q h => by
    rcases h with ⟨k, e1, h⟩ | h
    · exact hD.2 k _ h
    · exact hA q (Nat.le_trans hS.1 h)
  obtain ⟨q0, hq0⟩ : ∃ q0, vwCl[ci]? = some q0 := by
    cases hx : vwCl[ci]? with
    | none => rw [hx] at hci; cases hci
    | some q => exact ⟨q, rfl⟩
  have hq1 : q0.1 = (mnm M').cls := by rw [hq0] at hci; exact Option.some.inj hci
  have hM := hcon D ct ad H.size
  rw [d3, d4] at hM
  refine run_back (cw := w) (rest := rest.map (rv ad)) (va_runV (C := (mnm M').cls) (b := ad b0) (As := cav.map (rv ad)) ⟨C.1, C.2.1, C.2.2.2.1, C.2.2.2.2.1, hts⟩ hM
    ⟨callB_of nA hts (good_big hcode) rfl rfl rfl (hts _ hini) (hts _ hlk) hy ⟨d1, by show 8 + (mlo M' + 11) + 48 * mdp M' ≤ 48 * mdp M; omega⟩, hts _ him, hts _ hsel⟩
    ⟨Pm_blind, by rw [← hq1]; exact va_recv C.2.2.2.2.2.2.2.2.1 hP hq0 (wa_at hrc), fun U hU hW => ⟨rfl, by rw [hU], by rw [hU]; exact hP, KB.moved hW C.2.2.2.2.2.2.2.2, hD.weaken (fun _ _ _ _ => trivial)⟩⟩
    rfl (by rw [List.length_map]; exact hna) hL.1 (by show List.map (rv ad) _ = _; rw [List.map_append, List.map_reverse]; rfl) (by show 2 * 0 + _ ≤ 8; rw [cat_map]; omega) hd ⟨d5, d6⟩) hS hF (fun r w' H1 locs1 hq hP1 hD1 hk1 hS1 => ?_)
  obtain ⟨hlen, hG⟩ := kk r w' hq
  have e9 : (r.map (rv ad)).toList ++ rest.map (rv ad) = (r.toList ++ rest).map (rv ad) := by cases r <;> rfl
  rw [e9]
  exact hG p e s m args below meth c D ct A ad0 ad H1 locs1 la C hA h0 h1 (by rw [hlen]; exact hz) hP1 (va_D_addr hlen hD) hS1 hL
end RI
/-- a contract that names answer and world -/
abbrev Fn (l : Launch) (M : MC) (av : List Value) (w : List va_E) (v : Option Value) (w' : List va_E) : Prop := Con l M av w (fun r u => r = v ∧ u = w')
end
section
/-! 09.words: what the tables say of fields and calls (written by wip/gen/gen_words.py) -/
theorem us_of (ws : List Cond) (ps : List Nat) (h : ws = ps.filterMap (fun i => lw_tbl[i]?)) (hg : ws.all goodWord = true) : ∀ w ∈ ws, w ∈ big := by
  intro w hw
  have h1 := List.all_eq_true.mp hg w hw
  rw [h] at hw
  obtain ⟨i, -, hi⟩ := List.mem_filterMap.mp hw
  exact big_of i hi h1
theorem us_X0 : ∀ w ∈ u_ws RX0 TX0 3, w ∈ big := us_of _ [116, 118, 120] (by decide +kernel) (by decide +kernel)
theorem us_X1 : ∀ w ∈ u_ws RX1 TX1 2, w ∈ big := us_of _ [99, 101] (by decide +kernel) (by decide +kernel)
theorem us_X2 : ∀ w ∈ u_ws RX2 TX2 4, w ∈ big := us_of _ [195, 197, 199, 201] (by decide +kernel) (by decide +kernel)
theorem us_X3 : ∀ w ∈ u_ws RX3 TX3 6, w ∈ big := us_of _ [154, 156, 158, 160, 162, 164] (by decide +kernel) (by decide +kernel)
theorem us_X4 : ∀ w ∈ u_ws RX4 TX4 2, w ∈ big := us_of _ [85, 87] (by decide +kernel) (by decide +kernel)
theorem us_X5 : ∀ w ∈ u_ws RX5 TX5 3, w ∈ big := us_of _ [218, 220, 222] (by decide +kernel) (by decide +kernel)
theorem us_X6 : ∀ w ∈ u_ws RX6 TX6 3, w ∈ big := us_of _ [173, 175, 177] (by decide +kernel) (by decide +kernel)
theorem us_X7 : ∀ w ∈ u_ws RX7 TX7 11, w ∈ big := us_of _ [263, 265, 267, 269, 271, 273, 275, 277, 279, 281, 283] (by decide +kernel) (by decide +kernel)
theorem us_X8 : ∀ w ∈ u_ws RX8 TX8 11, w ∈ big := us_of _ [420, 422, 424, 426, 428, 430, 432, 434, 436, 438, 440] (by decide +kernel) (by decide +kernel)
theorem us_X9 : ∀ w ∈ u_ws RX9 TX9 13, w ∈ big := us_of _ [835, 837, 839, 841, 843, 845, 847, 849, 851, 853, 855, 857, 859] (by decide +kernel) (by decide +kernel)
theorem pf_X8_10 : PF RX8 10 8 0 true (.object "ButtressWall$Text") := ⟨(RX8, TX8, 11), rfl, by decide, (big_of 409 (by decide +kernel) (by decide +kernel)), us_X8, ⟨tyX8, tyX8_ok, nmX8⟩, rfl, rfl, tyX8_ok 0 (by decide)⟩
theorem pf_X8_19 : PF RX8 19 8 1 true (.object "ButtressWall$Reader") := ⟨(RX8, TX8, 11), rfl, by decide, (big_of 410 (by decide +kernel) (by decide +kernel)), us_X8, ⟨tyX8, tyX8_ok, nmX8⟩, rfl, rfl, tyX8_ok 1 (by decide)⟩
theorem pf_X8_26 : PF RX8 26 8 2 true (.object "ButtressWall$Clock") := ⟨(RX8, TX8, 11), rfl, by decide, (big_of 411 (by decide +kernel) (by decide +kernel)), us_X8, ⟨tyX8, tyX8_ok, nmX8⟩, rfl, rfl, tyX8_ok 2 (by decide)⟩
theorem pf_X8_33 : PF RX8 33 8 3 true (.object "ButtressWall$Trial") := ⟨(RX8, TX8, 11), rfl, by decide, (big_of 412 (by decide +kernel) (by decide +kernel)), us_X8, ⟨tyX8, tyX8_ok, nmX8⟩, rfl, rfl, tyX8_ok 3 (by decide)⟩
theorem pf_X8_40 : PF RX8 40 8 4 true (.object "ButtressWall$Rosters") := ⟨(RX8, TX8, 11), rfl, by decide, (big_of 413 (by decide +kernel) (by decide +kernel)), us_X8, ⟨tyX8, tyX8_ok, nmX8⟩, rfl, rfl, tyX8_ok 4 (by decide)⟩
theorem pf_X8_47 : PF RX8 47 8 5 true (.object "ButtressWall$State") := ⟨(RX8, TX8, 11), rfl, by decide, (big_of 414 (by decide +kernel) (by decide +kernel)), us_X8, ⟨tyX8, tyX8_ok, nmX8⟩, rfl, rfl, tyX8_ok 5 (by decide)⟩
theorem pf_X8_54 : PF RX8 54 8 6 true (.object "ButtressWall$Trail") := ⟨(RX8, TX8, 11), rfl, by decide, (big_of 415 (by decide +kernel) (by decide +kernel)), us_X8, ⟨tyX8, tyX8_ok, nmX8⟩, rfl, rfl, tyX8_ok 6 (by decide)⟩
theorem pf_X8_58 : PF RX8 58 8 7 true (.array (.object "ButtressWall$State")) := ⟨(RX8, TX8, 11), rfl, by decide, (big_of 416 (by decide +kernel) (by decide +kernel)), us_X8, ⟨tyX8, tyX8_ok, nmX8⟩, rfl, rfl, tyX8_ok 7 (by decide)⟩
theorem pf_X8_65 : PF RX8 65 8 9 false (.object "ButtressWall$Wall") := ⟨(RX8, TX8, 11), rfl, by decide, (big_of 418 (by decide +kernel) (by decide +kernel)), us_X8, ⟨tyX8, tyX8_ok, nmX8⟩, rfl, rfl, tyX8_ok 9 (by decide)⟩
theorem pf_X8_69 : PF RX8 69 8 10 false (.object "ButtressWall$Wall") := ⟨(RX8, TX8, 11), rfl, by decide, (big_of 419 (by decide +kernel) (by decide +kernel)), us_X8, ⟨tyX8, tyX8_ok, nmX8⟩, rfl, rfl, tyX8_ok 10 (by decide)⟩
theorem fl_X8_58 : FL RX8 58 8 7 := ⟨(RX8, TX8, 11), rfl, by decide, (big_of 416 (by decide +kernel) (by decide +kernel)), us_X8⟩
theorem fl_X8_10 : FL RX8 10 8 0 := ⟨(RX8, TX8, 11), rfl, by decide, (big_of 409 (by decide +kernel) (by decide +kernel)), us_X8⟩
theorem pf_X8_91 : PF RX8 91 4 1 false .int := ⟨(RX4, TX4, 2), rfl, by decide, (big_of 82 (by decide +kernel) (by decide +kernel)), us_X4, ⟨tyX4, tyX4_ok, nmX4⟩, rfl, rfl, tyX4_ok 1 (by decide)⟩
theorem fl_X8_91 : FL RX8 91 4 1 := ⟨(RX4, TX4, 2), rfl, by decide, (big_of 82 (by decide +kernel) (by decide +kernel)), us_X4⟩
theorem fl_X8_19 : FL RX8 19 8 1 := ⟨(RX8, TX8, 11), rfl, by decide, (big_of 410 (by decide +kernel) (by decide +kernel)), us_X8⟩
theorem fl_X8_69 : FL RX8 69 8 10 := ⟨(RX8, TX8, 11), rfl, by decide, (big_of 419 (by decide +kernel) (by decide +kernel)), us_X8⟩
theorem fl_X8_65 : FL RX8 65 8 9 := ⟨(RX8, TX8, 11), rfl, by decide, (big_of 418 (by decide +kernel) (by decide +kernel)), us_X8⟩
theorem fl_X8_47 : FL RX8 47 8 5 := ⟨(RX8, TX8, 11), rfl, by decide, (big_of 414 (by decide +kernel) (by decide +kernel)), us_X8⟩
theorem fl_X8_105 : FL RX8 105 7 5 := ⟨(RX7, TX7, 11), rfl, by decide, (big_of 246 (by decide +kernel) (by decide +kernel)), us_X7⟩
theorem fl_X8_109 : FL RX8 109 7 6 := ⟨(RX7, TX7, 11), rfl, by decide, (big_of 248 (by decide +kernel) (by decide +kernel)), us_X7⟩
theorem fl_X8_119 : FL RX8 119 7 7 := ⟨(RX7, TX7, 11), rfl, by decide, (big_of 252 (by decide +kernel) (by decide +kernel)), us_X7⟩
theorem fl_X8_122 : FL RX8 122 7 8 := ⟨(RX7, TX7, 11), rfl, by decide, (big_of 256 (by decide +kernel) (by decide +kernel)), us_X7⟩
theorem fl_X8_125 : FL RX8 125 3 3 := ⟨(RX3, TX3, 6), rfl, by decide, (big_of 147 (by decide +kernel) (by decide +kernel)), us_X3⟩
theorem fl_X8_128 : FL RX8 128 7 10 := ⟨(RX7, TX7, 11), rfl, by decide, (big_of 260 (by decide +kernel) (by decide +kernel)), us_X7⟩
theorem fl_X8_131 : FL RX8 131 3 4 := ⟨(RX3, TX3, 6), rfl, by decide, (big_of 150 (by decide +kernel) (by decide +kernel)), us_X3⟩
theorem fl_X8_137 : FL RX8 137 3 0 := ⟨(RX3, TX3, 6), rfl, by decide, (big_of 137 (by decide +kernel) (by decide +kernel)), us_X3⟩
theorem fl_X8_54 : FL RX8 54 8 6 := ⟨(RX8, TX8, 11), rfl, by decide, (big_of 415 (by decide +kernel) (by decide +kernel)), us_X8⟩
theorem fl_X8_26 : FL RX8 26 8 2 := ⟨(RX8, TX8, 11), rfl, by decide, (big_of 411 (by decide +kernel) (by decide +kernel)), us_X8⟩
theorem fl_X8_173 : FL RX8 173 5 2 := ⟨(RX5, TX5, 3), rfl, by decide, (big_of 217 (by decide +kernel) (by decide +kernel)), us_X5⟩
theorem fl_X8_33 : FL RX8 33 8 3 := ⟨(RX8, TX8, 11), rfl, by decide, (big_of 412 (by decide +kernel) (by decide +kernel)), us_X8⟩
theorem fl_X8_198 : FL RX8 198 3 1 := ⟨(RX3, TX3, 6), rfl, by decide, (big_of 140 (by decide +kernel) (by decide +kernel)), us_X3⟩
theorem fl_X8_40 : FL RX8 40 8 4 := ⟨(RX8, TX8, 11), rfl, by decide, (big_of 413 (by decide +kernel) (by decide +kernel)), us_X8⟩
theorem fl_X8_215 : FL RX8 215 7 0 := ⟨(RX7, TX7, 11), rfl, by decide, (big_of 234 (by decide +kernel) (by decide +kernel)), us_X7⟩
theorem fl_X8_262 : FL RX8 262 6 0 := ⟨(RX6, TX6, 3), rfl, by decide, (big_of 170 (by decide +kernel) (by decide +kernel)), us_X6⟩
theorem fl_X8_265 : FL RX8 265 3 2 := ⟨(RX3, TX3, 6), rfl, by decide, (big_of 143 (by decide +kernel) (by decide +kernel)), us_X3⟩
theorem fl_X8_268 : FL RX8 268 8 8 := ⟨(RX8, TX8, 11), rfl, by decide, (big_of 417 (by decide +kernel) (by decide +kernel)), us_X8⟩
theorem pf_X8_268 : PF RX8 268 8 8 false .int := ⟨(RX8, TX8, 11), rfl, by decide, (big_of 417 (by decide +kernel) (by decide +kernel)), us_X8, ⟨tyX8, tyX8_ok, nmX8⟩, rfl, rfl, tyX8_ok 8 (by decide)⟩
theorem fl_X8_276 : FL RX8 276 7 1 := ⟨(RX7, TX7, 11), rfl, by decide, (big_of 239 (by decide +kernel) (by decide +kernel)), us_X7⟩
theorem fl_X8_285 : FL RX8 285 0 1 := ⟨(RX0, TX0, 3), rfl, by decide, (big_of 113 (by decide +kernel) (by decide +kernel)), us_X0⟩
theorem fl_X8_288 : FL RX8 288 0 2 := ⟨(RX0, TX0, 3), rfl, by decide, (big_of 115 (by decide +kernel) (by decide +kernel)), us_X0⟩
theorem fl_X8_294 : FL RX8 294 3 5 := ⟨(RX3, TX3, 6), rfl, by decide, (big_of 153 (by decide +kernel) (by decide +kernel)), us_X3⟩
theorem pf_X8_198 : PF RX8 198 3 1 false .int := ⟨(RX3, TX3, 6), rfl, by decide, (big_of 140 (by decide +kernel) (by decide +kernel)), us_X3, ⟨tyX3, tyX3_ok, nmX3⟩, rfl, rfl, tyX3_ok 1 (by decide)⟩
theorem pf_X9_7 : PF RX9 7 9 0 true (.array .int) := ⟨(RX9, TX9, 13), rfl, by decide, (big_of 822 (by decide +kernel) (by decide +kernel)), us_X9, ⟨tyX9, tyX9_ok, nmX9⟩, rfl, rfl, tyX9_ok 0 (by decide)⟩
theorem pf_X9_13 : PF RX9 13 9 2 true (.array .int) := ⟨(RX9, TX9, 13), rfl, by decide, (big_of 824 (by decide +kernel) (by decide +kernel)), us_X9, ⟨tyX9, tyX9_ok, nmX9⟩, rfl, rfl, tyX9_ok 2 (by decide)⟩
theorem pf_X9_16 : PF RX9 16 9 3 true (.array .int) := ⟨(RX9, TX9, 13), rfl, by decide, (big_of 825 (by decide +kernel) (by decide +kernel)), us_X9, ⟨tyX9, tyX9_ok, nmX9⟩, rfl, rfl, tyX9_ok 3 (by decide)⟩
theorem pf_X9_19 : PF RX9 19 9 4 true (.array .int) := ⟨(RX9, TX9, 13), rfl, by decide, (big_of 826 (by decide +kernel) (by decide +kernel)), us_X9, ⟨tyX9, tyX9_ok, nmX9⟩, rfl, rfl, tyX9_ok 4 (by decide)⟩
theorem pf_X9_22 : PF RX9 22 9 6 true (.array .int) := ⟨(RX9, TX9, 13), rfl, by decide, (big_of 828 (by decide +kernel) (by decide +kernel)), us_X9, ⟨tyX9, tyX9_ok, nmX9⟩, rfl, rfl, tyX9_ok 6 (by decide)⟩
theorem pf_X9_25 : PF RX9 25 9 7 true (.array .int) := ⟨(RX9, TX9, 13), rfl, by decide, (big_of 829 (by decide +kernel) (by decide +kernel)), us_X9, ⟨tyX9, tyX9_ok, nmX9⟩, rfl, rfl, tyX9_ok 7 (by decide)⟩
theorem pf_X9_28 : PF RX9 28 9 9 true (.array .int) := ⟨(RX9, TX9, 13), rfl, by decide, (big_of 831 (by decide +kernel) (by decide +kernel)), us_X9, ⟨tyX9, tyX9_ok, nmX9⟩, rfl, rfl, tyX9_ok 9 (by decide)⟩
theorem pf_X9_31 : PF RX9 31 9 12 true (.array .int) := ⟨(RX9, TX9, 13), rfl, by decide, (big_of 834 (by decide +kernel) (by decide +kernel)), us_X9, ⟨tyX9, tyX9_ok, nmX9⟩, rfl, rfl, tyX9_ok 12 (by decide)⟩
theorem fl_X9_16 : FL RX9 16 9 3 := ⟨(RX9, TX9, 13), rfl, by decide, (big_of 825 (by decide +kernel) (by decide +kernel)), us_X9⟩
theorem pf_X9_45 : PF RX9 45 9 5 false .int := ⟨(RX9, TX9, 13), rfl, by decide, (big_of 827 (by decide +kernel) (by decide +kernel)), us_X9, ⟨tyX9, tyX9_ok, nmX9⟩, rfl, rfl, tyX9_ok 5 (by decide)⟩
theorem fl_X9_13 : FL RX9 13 9 2 := ⟨(RX9, TX9, 13), rfl, by decide, (big_of 824 (by decide +kernel) (by decide +kernel)), us_X9⟩
theorem fl_X9_56 : FL RX9 56 9 1 := ⟨(RX9, TX9, 13), rfl, by decide, (big_of 823 (by decide +kernel) (by decide +kernel)), us_X9⟩
theorem fl_X9_7 : FL RX9 7 9 0 := ⟨(RX9, TX9, 13), rfl, by decide, (big_of 822 (by decide +kernel) (by decide +kernel)), us_X9⟩
theorem pf_X9_56 : PF RX9 56 9 1 false .int := ⟨(RX9, TX9, 13), rfl, by decide, (big_of 823 (by decide +kernel) (by decide +kernel)), us_X9, ⟨tyX9, tyX9_ok, nmX9⟩, rfl, rfl, tyX9_ok 1 (by decide)⟩
theorem fl_X9_59 : FL RX9 59 9 11 := ⟨(RX9, TX9, 13), rfl, by decide, (big_of 833 (by decide +kernel) (by decide +kernel)), us_X9⟩
theorem pf_X9_59 : PF RX9 59 9 11 false .int := ⟨(RX9, TX9, 13), rfl, by decide, (big_of 833 (by decide +kernel) (by decide +kernel)), us_X9, ⟨tyX9, tyX9_ok, nmX9⟩, rfl, rfl, tyX9_ok 11 (by decide)⟩
theorem fl_X9_19 : FL RX9 19 9 4 := ⟨(RX9, TX9, 13), rfl, by decide, (big_of 826 (by decide +kernel) (by decide +kernel)), us_X9⟩
theorem fl_X9_45 : FL RX9 45 9 5 := ⟨(RX9, TX9, 13), rfl, by decide, (big_of 827 (by decide +kernel) (by decide +kernel)), us_X9⟩
theorem fl_X9_22 : FL RX9 22 9 6 := ⟨(RX9, TX9, 13), rfl, by decide, (big_of 828 (by decide +kernel) (by decide +kernel)), us_X9⟩
theorem pf_X9_88 : PF RX9 88 9 8 false .int := ⟨(RX9, TX9, 13), rfl, by decide, (big_of 830 (by decide +kernel) (by decide +kernel)), us_X9, ⟨tyX9, tyX9_ok, nmX9⟩, rfl, rfl, tyX9_ok 8 (by decide)⟩
theorem pf_X9_91 : PF RX9 91 9 10 false .int := ⟨(RX9, TX9, 13), rfl, by decide, (big_of 832 (by decide +kernel) (by decide +kernel)), us_X9, ⟨tyX9, tyX9_ok, nmX9⟩, rfl, rfl, tyX9_ok 10 (by decide)⟩
theorem fl_X9_88 : FL RX9 88 9 8 := ⟨(RX9, TX9, 13), rfl, by decide, (big_of 830 (by decide +kernel) (by decide +kernel)), us_X9⟩
theorem fl_X9_25 : FL RX9 25 9 7 := ⟨(RX9, TX9, 13), rfl, by decide, (big_of 829 (by decide +kernel) (by decide +kernel)), us_X9⟩
theorem fl_X9_31 : FL RX9 31 9 12 := ⟨(RX9, TX9, 13), rfl, by decide, (big_of 834 (by decide +kernel) (by decide +kernel)), us_X9⟩
theorem fl_X9_91 : FL RX9 91 9 10 := ⟨(RX9, TX9, 13), rfl, by decide, (big_of 832 (by decide +kernel) (by decide +kernel)), us_X9⟩
theorem fl_X9_28 : FL RX9 28 9 9 := ⟨(RX9, TX9, 13), rfl, by decide, (big_of 831 (by decide +kernel) (by decide +kernel)), us_X9⟩
theorem pf_X0_9 : PF RX0 9 0 0 true (.array .int) := ⟨(RX0, TX0, 3), rfl, by decide, (big_of 111 (by decide +kernel) (by decide +kernel)), us_X0, ⟨tyX0, tyX0_ok, nmX0⟩, rfl, rfl, tyX0_ok 0 (by decide)⟩
theorem pf_X0_15 : PF RX0 15 0 1 true (.array .int) := ⟨(RX0, TX0, 3), rfl, by decide, (big_of 112 (by decide +kernel) (by decide +kernel)), us_X0, ⟨tyX0, tyX0_ok, nmX0⟩, rfl, rfl, tyX0_ok 1 (by decide)⟩
theorem pf_X0_18 : PF RX0 18 0 2 true (.array .int) := ⟨(RX0, TX0, 3), rfl, by decide, (big_of 114 (by decide +kernel) (by decide +kernel)), us_X0, ⟨tyX0, tyX0_ok, nmX0⟩, rfl, rfl, tyX0_ok 2 (by decide)⟩
theorem fl_X0_25 : FL RX0 25 7 0 := ⟨(RX7, TX7, 11), rfl, by decide, (big_of 232 (by decide +kernel) (by decide +kernel)), us_X7⟩
theorem fl_X0_15 : FL RX0 15 0 1 := ⟨(RX0, TX0, 3), rfl, by decide, (big_of 112 (by decide +kernel) (by decide +kernel)), us_X0⟩
theorem fl_X0_31 : FL RX0 31 7 5 := ⟨(RX7, TX7, 11), rfl, by decide, (big_of 245 (by decide +kernel) (by decide +kernel)), us_X7⟩
theorem fl_X0_18 : FL RX0 18 0 2 := ⟨(RX0, TX0, 3), rfl, by decide, (big_of 114 (by decide +kernel) (by decide +kernel)), us_X0⟩
theorem fl_X0_9 : FL RX0 9 0 0 := ⟨(RX0, TX0, 3), rfl, by decide, (big_of 111 (by decide +kernel) (by decide +kernel)), us_X0⟩
theorem fl_X0_41 : FL RX0 41 3 2 := ⟨(RX3, TX3, 6), rfl, by decide, (big_of 142 (by decide +kernel) (by decide +kernel)), us_X3⟩
theorem fl_X0_46 : FL RX0 46 7 1 := ⟨(RX7, TX7, 11), rfl, by decide, (big_of 236 (by decide +kernel) (by decide +kernel)), us_X7⟩
theorem fl_X0_49 : FL RX0 49 3 3 := ⟨(RX3, TX3, 6), rfl, by decide, (big_of 145 (by decide +kernel) (by decide +kernel)), us_X3⟩
theorem fl_X0_59 : FL RX0 59 7 8 := ⟨(RX7, TX7, 11), rfl, by decide, (big_of 255 (by decide +kernel) (by decide +kernel)), us_X7⟩
theorem fl_X0_75 : FL RX0 75 3 0 := ⟨(RX3, TX3, 6), rfl, by decide, (big_of 136 (by decide +kernel) (by decide +kernel)), us_X3⟩
theorem fl_X0_88 : FL RX0 88 3 4 := ⟨(RX3, TX3, 6), rfl, by decide, (big_of 149 (by decide +kernel) (by decide +kernel)), us_X3⟩
theorem pf_X0_41 : PF RX0 41 3 2 false .int := ⟨(RX3, TX3, 6), rfl, by decide, (big_of 142 (by decide +kernel) (by decide +kernel)), us_X3, ⟨tyX3, tyX3_ok, nmX3⟩, rfl, rfl, tyX3_ok 2 (by decide)⟩
theorem pf_X0_75 : PF RX0 75 3 0 false .int := ⟨(RX3, TX3, 6), rfl, by decide, (big_of 136 (by decide +kernel) (by decide +kernel)), us_X3, ⟨tyX3, tyX3_ok, nmX3⟩, rfl, rfl, tyX3_ok 0 (by decide)⟩
theorem fl_X0_101 : FL RX0 101 7 7 := ⟨(RX7, TX7, 11), rfl, by decide, (big_of 251 (by decide +kernel) (by decide +kernel)), us_X7⟩
theorem fl_X0_112 : FL RX0 112 3 5 := ⟨(RX3, TX3, 6), rfl, by decide, (big_of 152 (by decide +kernel) (by decide +kernel)), us_X3⟩
theorem fl_X0_119 : FL RX0 119 7 6 := ⟨(RX7, TX7, 11), rfl, by decide, (big_of 249 (by decide +kernel) (by decide +kernel)), us_X7⟩
theorem fl_X0_122 : FL RX0 122 7 10 := ⟨(RX7, TX7, 11), rfl, by decide, (big_of 262 (by decide +kernel) (by decide +kernel)), us_X7⟩
theorem pf_X1_9 : PF RX1 9 1 0 true (.array .int) := ⟨(RX1, TX1, 2), rfl, by decide, (big_of 97 (by decide +kernel) (by decide +kernel)), us_X1, ⟨tyX1, tyX1_ok, nmX1⟩, rfl, rfl, tyX1_ok 0 (by decide)⟩
theorem pf_X1_20 : PF RX1 20 1 1 false .int := ⟨(RX1, TX1, 2), rfl, by decide, (big_of 98 (by decide +kernel) (by decide +kernel)), us_X1, ⟨tyX1, tyX1_ok, nmX1⟩, rfl, rfl, tyX1_ok 1 (by decide)⟩
theorem fl_X1_20 : FL RX1 20 1 1 := ⟨(RX1, TX1, 2), rfl, by decide, (big_of 98 (by decide +kernel) (by decide +kernel)), us_X1⟩
theorem fl_X1_24 : FL RX1 24 4 1 := ⟨(RX4, TX4, 2), rfl, by decide, (big_of 84 (by decide +kernel) (by decide +kernel)), us_X4⟩
theorem fl_X1_9 : FL RX1 9 1 0 := ⟨(RX1, TX1, 2), rfl, by decide, (big_of 97 (by decide +kernel) (by decide +kernel)), us_X1⟩
theorem pf_X2_14 : PF RX2 14 2 0 true (.object "ButtressWall$Clock") := ⟨(RX2, TX2, 4), rfl, by decide, (big_of 191 (by decide +kernel) (by decide +kernel)), us_X2, ⟨tyX2, tyX2_ok, nmX2⟩, rfl, rfl, tyX2_ok 0 (by decide)⟩
theorem pf_X2_20 : PF RX2 20 2 1 true (.array (.object "ButtressWall$State")) := ⟨(RX2, TX2, 4), rfl, by decide, (big_of 192 (by decide +kernel) (by decide +kernel)), us_X2, ⟨tyX2, tyX2_ok, nmX2⟩, rfl, rfl, tyX2_ok 1 (by decide)⟩
theorem fl_X2_20 : FL RX2 20 2 1 := ⟨(RX2, TX2, 4), rfl, by decide, (big_of 192 (by decide +kernel) (by decide +kernel)), us_X2⟩
theorem pf_X2_31 : PF RX2 31 2 2 false .int := ⟨(RX2, TX2, 4), rfl, by decide, (big_of 193 (by decide +kernel) (by decide +kernel)), us_X2, ⟨tyX2, tyX2_ok, nmX2⟩, rfl, rfl, tyX2_ok 2 (by decide)⟩
theorem pf_X2_36 : PF RX2 36 2 3 false .int := ⟨(RX2, TX2, 4), rfl, by decide, (big_of 194 (by decide +kernel) (by decide +kernel)), us_X2, ⟨tyX2, tyX2_ok, nmX2⟩, rfl, rfl, tyX2_ok 3 (by decide)⟩
theorem fl_X2_47 : FL RX2 47 3 1 := ⟨(RX3, TX3, 6), rfl, by decide, (big_of 139 (by decide +kernel) (by decide +kernel)), us_X3⟩
theorem fl_X2_36 : FL RX2 36 2 3 := ⟨(RX2, TX2, 4), rfl, by decide, (big_of 194 (by decide +kernel) (by decide +kernel)), us_X2⟩
theorem fl_X2_31 : FL RX2 31 2 2 := ⟨(RX2, TX2, 4), rfl, by decide, (big_of 193 (by decide +kernel) (by decide +kernel)), us_X2⟩
theorem pf_X2_47 : PF RX2 47 3 1 false .int := ⟨(RX3, TX3, 6), rfl, by decide, (big_of 139 (by decide +kernel) (by decide +kernel)), us_X3, ⟨tyX3, tyX3_ok, nmX3⟩, rfl, rfl, tyX3_ok 1 (by decide)⟩
theorem fl_X2_14 : FL RX2 14 2 0 := ⟨(RX2, TX2, 4), rfl, by decide, (big_of 191 (by decide +kernel) (by decide +kernel)), us_X2⟩
theorem pf_X3_9 : PF RX3 9 3 3 true (.array .int) := ⟨(RX3, TX3, 6), rfl, by decide, (big_of 144 (by decide +kernel) (by decide +kernel)), us_X3, ⟨tyX3, tyX3_ok, nmX3⟩, rfl, rfl, tyX3_ok 3 (by decide)⟩
theorem pf_X3_15 : PF RX3 15 3 4 true (.array .int) := ⟨(RX3, TX3, 6), rfl, by decide, (big_of 148 (by decide +kernel) (by decide +kernel)), us_X3, ⟨tyX3, tyX3_ok, nmX3⟩, rfl, rfl, tyX3_ok 4 (by decide)⟩
theorem pf_X3_18 : PF RX3 18 3 5 true (.array .int) := ⟨(RX3, TX3, 6), rfl, by decide, (big_of 151 (by decide +kernel) (by decide +kernel)), us_X3, ⟨tyX3, tyX3_ok, nmX3⟩, rfl, rfl, tyX3_ok 5 (by decide)⟩
theorem pf_X3_21 : PF RX3 21 3 0 false .int := ⟨(RX3, TX3, 6), rfl, by decide, (big_of 135 (by decide +kernel) (by decide +kernel)), us_X3, ⟨tyX3, tyX3_ok, nmX3⟩, rfl, rfl, tyX3_ok 0 (by decide)⟩
theorem fl_X3_31 : FL RX3 31 7 4 := ⟨(RX7, TX7, 11), rfl, by decide, (big_of 242 (by decide +kernel) (by decide +kernel)), us_X7⟩
theorem pf_X3_34 : PF RX3 34 3 1 false .int := ⟨(RX3, TX3, 6), rfl, by decide, (big_of 138 (by decide +kernel) (by decide +kernel)), us_X3, ⟨tyX3, tyX3_ok, nmX3⟩, rfl, rfl, tyX3_ok 1 (by decide)⟩
theorem pf_X3_37 : PF RX3 37 3 2 false .int := ⟨(RX3, TX3, 6), rfl, by decide, (big_of 141 (by decide +kernel) (by decide +kernel)), us_X3, ⟨tyX3, tyX3_ok, nmX3⟩, rfl, rfl, tyX3_ok 2 (by decide)⟩
theorem fl_X3_9 : FL RX3 9 3 3 := ⟨(RX3, TX3, 6), rfl, by decide, (big_of 144 (by decide +kernel) (by decide +kernel)), us_X3⟩
theorem fl_X3_40 : FL RX3 40 7 9 := ⟨(RX7, TX7, 11), rfl, by decide, (big_of 258 (by decide +kernel) (by decide +kernel)), us_X7⟩
theorem fl_X3_15 : FL RX3 15 3 4 := ⟨(RX3, TX3, 6), rfl, by decide, (big_of 148 (by decide +kernel) (by decide +kernel)), us_X3⟩
theorem fl_X3_18 : FL RX3 18 3 5 := ⟨(RX3, TX3, 6), rfl, by decide, (big_of 151 (by decide +kernel) (by decide +kernel)), us_X3⟩
theorem fl_X3_21 : FL RX3 21 3 0 := ⟨(RX3, TX3, 6), rfl, by decide, (big_of 135 (by decide +kernel) (by decide +kernel)), us_X3⟩
theorem fl_X3_34 : FL RX3 34 3 1 := ⟨(RX3, TX3, 6), rfl, by decide, (big_of 138 (by decide +kernel) (by decide +kernel)), us_X3⟩
theorem fl_X3_37 : FL RX3 37 3 2 := ⟨(RX3, TX3, 6), rfl, by decide, (big_of 141 (by decide +kernel) (by decide +kernel)), us_X3⟩
theorem fl_X3_60 : FL RX3 60 7 10 := ⟨(RX7, TX7, 11), rfl, by decide, (big_of 261 (by decide +kernel) (by decide +kernel)), us_X7⟩
theorem fl_X3_66 : FL RX3 66 7 7 := ⟨(RX7, TX7, 11), rfl, by decide, (big_of 253 (by decide +kernel) (by decide +kernel)), us_X7⟩
theorem fl_X3_72 : FL RX3 72 7 1 := ⟨(RX7, TX7, 11), rfl, by decide, (big_of 238 (by decide +kernel) (by decide +kernel)), us_X7⟩
theorem pf_X4_9 : PF RX4 9 4 0 true (.array .char) := ⟨(RX4, TX4, 2), rfl, by decide, (big_of 81 (by decide +kernel) (by decide +kernel)), us_X4, ⟨tyX4, tyX4_ok, nmX4⟩, rfl, rfl, tyX4_ok 0 (by decide)⟩
theorem fl_X4_15 : FL RX4 15 4 1 := ⟨(RX4, TX4, 2), rfl, by decide, (big_of 83 (by decide +kernel) (by decide +kernel)), us_X4⟩
theorem fl_X4_9 : FL RX4 9 4 0 := ⟨(RX4, TX4, 2), rfl, by decide, (big_of 81 (by decide +kernel) (by decide +kernel)), us_X4⟩
theorem pf_X4_15 : PF RX4 15 4 1 false .int := ⟨(RX4, TX4, 2), rfl, by decide, (big_of 83 (by decide +kernel) (by decide +kernel)), us_X4, ⟨tyX4, tyX4_ok, nmX4⟩, rfl, rfl, tyX4_ok 1 (by decide)⟩
theorem pf_X5_11 : PF RX5 11 5 0 true (.array (.object "ButtressWall$State")) := ⟨(RX5, TX5, 3), rfl, by decide, (big_of 214 (by decide +kernel) (by decide +kernel)), us_X5, ⟨tyX5, tyX5_ok, nmX5⟩, rfl, rfl, tyX5_ok 0 (by decide)⟩
theorem fl_X5_11 : FL RX5 11 5 0 := ⟨(RX5, TX5, 3), rfl, by decide, (big_of 214 (by decide +kernel) (by decide +kernel)), us_X5⟩
theorem fl_X5_18 : FL RX5 18 5 1 := ⟨(RX5, TX5, 3), rfl, by decide, (big_of 215 (by decide +kernel) (by decide +kernel)), us_X5⟩
theorem pf_X5_18 : PF RX5 18 5 1 false .int := ⟨(RX5, TX5, 3), rfl, by decide, (big_of 215 (by decide +kernel) (by decide +kernel)), us_X5, ⟨tyX5, tyX5_ok, nmX5⟩, rfl, rfl, tyX5_ok 1 (by decide)⟩
theorem fl_X5_26 : FL RX5 26 5 2 := ⟨(RX5, TX5, 3), rfl, by decide, (big_of 216 (by decide +kernel) (by decide +kernel)), us_X5⟩
theorem pf_X5_26 : PF RX5 26 5 2 false .int := ⟨(RX5, TX5, 3), rfl, by decide, (big_of 216 (by decide +kernel) (by decide +kernel)), us_X5, ⟨tyX5, tyX5_ok, nmX5⟩, rfl, rfl, tyX5_ok 2 (by decide)⟩
theorem pf_X6_12 : PF RX6 12 6 0 true (.object "ButtressWall$State") := ⟨(RX6, TX6, 3), rfl, by decide, (big_of 169 (by decide +kernel) (by decide +kernel)), us_X6, ⟨tyX6, tyX6_ok, nmX6⟩, rfl, rfl, tyX6_ok 0 (by decide)⟩
theorem pf_X6_21 : PF RX6 21 6 1 true (.object "ButtressWall$Clock") := ⟨(RX6, TX6, 3), rfl, by decide, (big_of 171 (by decide +kernel) (by decide +kernel)), us_X6, ⟨tyX6, tyX6_ok, nmX6⟩, rfl, rfl, tyX6_ok 1 (by decide)⟩
theorem fl_X6_12 : FL RX6 12 6 0 := ⟨(RX6, TX6, 3), rfl, by decide, (big_of 169 (by decide +kernel) (by decide +kernel)), us_X6⟩
theorem pf_X6_29 : PF RX6 29 6 2 false .int := ⟨(RX6, TX6, 3), rfl, by decide, (big_of 172 (by decide +kernel) (by decide +kernel)), us_X6, ⟨tyX6, tyX6_ok, nmX6⟩, rfl, rfl, tyX6_ok 2 (by decide)⟩
theorem fl_X6_21 : FL RX6 21 6 1 := ⟨(RX6, TX6, 3), rfl, by decide, (big_of 171 (by decide +kernel) (by decide +kernel)), us_X6⟩
theorem fl_X6_29 : FL RX6 29 6 2 := ⟨(RX6, TX6, 3), rfl, by decide, (big_of 172 (by decide +kernel) (by decide +kernel)), us_X6⟩
theorem fl_X6_56 : FL RX6 56 3 3 := ⟨(RX3, TX3, 6), rfl, by decide, (big_of 146 (by decide +kernel) (by decide +kernel)), us_X3⟩
theorem fl_X6_63 : FL RX6 63 7 1 := ⟨(RX7, TX7, 11), rfl, by decide, (big_of 237 (by decide +kernel) (by decide +kernel)), us_X7⟩
theorem fl_X6_66 : FL RX6 66 7 0 := ⟨(RX7, TX7, 11), rfl, by decide, (big_of 233 (by decide +kernel) (by decide +kernel)), us_X7⟩
theorem pf_X7_9 : PF RX7 9 7 5 true (.array .int) := ⟨(RX7, TX7, 11), rfl, by decide, (big_of 244 (by decide +kernel) (by decide +kernel)), us_X7, ⟨tyX7, tyX7_ok, nmX7⟩, rfl, rfl, tyX7_ok 5 (by decide)⟩
theorem pf_X7_15 : PF RX7 15 7 6 true (.array .int) := ⟨(RX7, TX7, 11), rfl, by decide, (big_of 247 (by decide +kernel) (by decide +kernel)), us_X7, ⟨tyX7, tyX7_ok, nmX7⟩, rfl, rfl, tyX7_ok 6 (by decide)⟩
theorem pf_X7_18 : PF RX7 18 7 7 true (.array .int) := ⟨(RX7, TX7, 11), rfl, by decide, (big_of 250 (by decide +kernel) (by decide +kernel)), us_X7, ⟨tyX7, tyX7_ok, nmX7⟩, rfl, rfl, tyX7_ok 7 (by decide)⟩
theorem pf_X7_21 : PF RX7 21 7 8 true (.array .int) := ⟨(RX7, TX7, 11), rfl, by decide, (big_of 254 (by decide +kernel) (by decide +kernel)), us_X7, ⟨tyX7, tyX7_ok, nmX7⟩, rfl, rfl, tyX7_ok 8 (by decide)⟩
theorem pf_X7_24 : PF RX7 24 7 9 true (.array .int) := ⟨(RX7, TX7, 11), rfl, by decide, (big_of 257 (by decide +kernel) (by decide +kernel)), us_X7, ⟨tyX7, tyX7_ok, nmX7⟩, rfl, rfl, tyX7_ok 9 (by decide)⟩
theorem pf_X7_27 : PF RX7 27 7 10 true (.array .int) := ⟨(RX7, TX7, 11), rfl, by decide, (big_of 259 (by decide +kernel) (by decide +kernel)), us_X7, ⟨tyX7, tyX7_ok, nmX7⟩, rfl, rfl, tyX7_ok 10 (by decide)⟩
theorem pf_X7_30 : PF RX7 30 7 0 false .int := ⟨(RX7, TX7, 11), rfl, by decide, (big_of 231 (by decide +kernel) (by decide +kernel)), us_X7, ⟨tyX7, tyX7_ok, nmX7⟩, rfl, rfl, tyX7_ok 0 (by decide)⟩
theorem pf_X7_34 : PF RX7 34 7 1 false .int := ⟨(RX7, TX7, 11), rfl, by decide, (big_of 235 (by decide +kernel) (by decide +kernel)), us_X7, ⟨tyX7, tyX7_ok, nmX7⟩, rfl, rfl, tyX7_ok 1 (by decide)⟩
theorem pf_X7_37 : PF RX7 37 7 2 false .int := ⟨(RX7, TX7, 11), rfl, by decide, (big_of 240 (by decide +kernel) (by decide +kernel)), us_X7, ⟨tyX7, tyX7_ok, nmX7⟩, rfl, rfl, tyX7_ok 2 (by decide)⟩
theorem pf_X7_40 : PF RX7 40 7 3 false .int := ⟨(RX7, TX7, 11), rfl, by decide, (big_of 241 (by decide +kernel) (by decide +kernel)), us_X7, ⟨tyX7, tyX7_ok, nmX7⟩, rfl, rfl, tyX7_ok 3 (by decide)⟩
theorem pf_X7_43 : PF RX7 43 7 4 false .int := ⟨(RX7, TX7, 11), rfl, by decide, (big_of 243 (by decide +kernel) (by decide +kernel)), us_X7, ⟨tyX7, tyX7_ok, nmX7⟩, rfl, rfl, tyX7_ok 4 (by decide)⟩
theorem fl_X7_30 : FL RX7 30 7 0 := ⟨(RX7, TX7, 11), rfl, by decide, (big_of 231 (by decide +kernel) (by decide +kernel)), us_X7⟩
theorem fl_X7_34 : FL RX7 34 7 1 := ⟨(RX7, TX7, 11), rfl, by decide, (big_of 235 (by decide +kernel) (by decide +kernel)), us_X7⟩
theorem fl_X7_37 : FL RX7 37 7 2 := ⟨(RX7, TX7, 11), rfl, by decide, (big_of 240 (by decide +kernel) (by decide +kernel)), us_X7⟩
theorem fl_X7_40 : FL RX7 40 7 3 := ⟨(RX7, TX7, 11), rfl, by decide, (big_of 241 (by decide +kernel) (by decide +kernel)), us_X7⟩
theorem fl_X7_43 : FL RX7 43 7 4 := ⟨(RX7, TX7, 11), rfl, by decide, (big_of 243 (by decide +kernel) (by decide +kernel)), us_X7⟩
theorem fl_X7_9 : FL RX7 9 7 5 := ⟨(RX7, TX7, 11), rfl, by decide, (big_of 244 (by decide +kernel) (by decide +kernel)), us_X7⟩
theorem fl_X7_15 : FL RX7 15 7 6 := ⟨(RX7, TX7, 11), rfl, by decide, (big_of 247 (by decide +kernel) (by decide +kernel)), us_X7⟩
theorem fl_X7_18 : FL RX7 18 7 7 := ⟨(RX7, TX7, 11), rfl, by decide, (big_of 250 (by decide +kernel) (by decide +kernel)), us_X7⟩
theorem fl_X7_21 : FL RX7 21 7 8 := ⟨(RX7, TX7, 11), rfl, by decide, (big_of 254 (by decide +kernel) (by decide +kernel)), us_X7⟩
theorem fl_X7_24 : FL RX7 24 7 9 := ⟨(RX7, TX7, 11), rfl, by decide, (big_of 257 (by decide +kernel) (by decide +kernel)), us_X7⟩
theorem fl_X7_27 : FL RX7 27 7 10 := ⟨(RX7, TX7, 11), rfl, by decide, (big_of 259 (by decide +kernel) (by decide +kernel)), us_X7⟩
abbrev M_X8_write : MC := (yX8_write, cX8_write, 2, (some .int), 2, 0, 0)
theorem cb_X8_write : CB M_X8_write 1 := ⟨(big_of 50 (by decide +kernel) (by decide +kernel)), (big_of 447 (by decide +kernel) (by decide +kernel)), by decide +kernel⟩
abbrev M_X8_wipe : MC := (yX8_wipe, cX8_wipe, 2, (some .int), 1, 0, 0)
theorem cb_X8_wipe : CB M_X8_wipe 0 := ⟨(big_of 50 (by decide +kernel) (by decide +kernel)), (big_of 451 (by decide +kernel) (by decide +kernel)), by decide +kernel⟩
abbrev M_X8_fault : MC := (yX8_fault, cX8_fault, 1, (some .int), 6, 0, 0)
theorem cb_X8_fault : CB M_X8_fault 0 := ⟨(big_of 50 (by decide +kernel) (by decide +kernel)), (big_of 455 (by decide +kernel) (by decide +kernel)), by decide +kernel⟩
abbrev M_X8_lay : MC := (yX8_lay, cX8_lay, 1, (some .int), 7, 0, 0)
theorem cb_X8_lay : CB M_X8_lay 0 := ⟨(big_of 50 (by decide +kernel) (by decide +kernel)), (big_of 459 (by decide +kernel) (by decide +kernel)), by decide +kernel⟩
abbrev M_X8_bay : MC := (yX8_bay, cX8_bay, 4, (some .int), 5, 0, 0)
theorem cb_X8_bay : CB M_X8_bay 2 := ⟨(big_of 50 (by decide +kernel) (by decide +kernel)), (big_of 463 (by decide +kernel) (by decide +kernel)), by decide +kernel⟩
abbrev M_X8_buttress : MC := (yX8_buttress, cX8_buttress, 3, (some .int), 2, 0, 0)
theorem cb_X8_buttress : CB M_X8_buttress 2 := ⟨(big_of 50 (by decide +kernel) (by decide +kernel)), (big_of 503 (by decide +kernel) (by decide +kernel)), by decide +kernel⟩
abbrev M_X8_carts : MC := (yX8_carts, cX8_carts, 2, (some .int), 3, 0, 0)
theorem cb_X8_carts : CB M_X8_carts 1 := ⟨(big_of 50 (by decide +kernel) (by decide +kernel)), (big_of 509 (by decide +kernel) (by decide +kernel)), by decide +kernel⟩
abbrev M_X8_pass : MC := (yX8_pass, cX8_pass, 3, (some .int), 5, 0, 0)
theorem cb_X8_pass : CB M_X8_pass 1 := ⟨(big_of 50 (by decide +kernel) (by decide +kernel)), (big_of 521 (by decide +kernel) (by decide +kernel)), by decide +kernel⟩
abbrev M_X8_down : MC := (yX8_down, cX8_down, 2, (some .int), 5, 0, 0)
theorem cb_X8_down : CB M_X8_down 1 := ⟨(big_of 50 (by decide +kernel) (by decide +kernel)), (big_of 569 (by decide +kernel) (by decide +kernel)), by decide +kernel⟩
abbrev M_X8_up : MC := (yX8_up, cX8_up, 2, (some .int), 5, 0, 0)
theorem cb_X8_up : CB M_X8_up 1 := ⟨(big_of 50 (by decide +kernel) (by decide +kernel)), (big_of 585 (by decide +kernel) (by decide +kernel)), by decide +kernel⟩
abbrev M_X8_send : MC := (yX8_send, cX8_send, 4, (some .int), 3, 0, 0)
theorem cb_X8_send : CB M_X8_send 2 := ⟨(big_of 50 (by decide +kernel) (by decide +kernel)), (big_of 602 (by decide +kernel) (by decide +kernel)), by decide +kernel⟩
abbrev M_X8_undo : MC := (yX8_undo, cX8_undo, 1, (some .int), 3, 0, 0)
theorem cb_X8_undo : CB M_X8_undo 0 := ⟨(big_of 50 (by decide +kernel) (by decide +kernel)), (big_of 606 (by decide +kernel) (by decide +kernel)), by decide +kernel⟩
abbrev M_X8_stands : MC := (yX8_stands, cX8_stands, 3, (some .int), 6, 0, 0)
theorem cb_X8_stands : CB M_X8_stands 1 := ⟨(big_of 50 (by decide +kernel) (by decide +kernel)), (big_of 614 (by decide +kernel) (by decide +kernel)), by decide +kernel⟩
abbrev M_X8_needed : MC := (yX8_needed, cX8_needed, 3, (some .int), 7, 0, 0)
theorem cb_X8_needed : CB M_X8_needed 0 := ⟨(big_of 50 (by decide +kernel) (by decide +kernel)), (big_of 636 (by decide +kernel) (by decide +kernel)), by decide +kernel⟩
abbrev M_X8_cuts : MC := (yX8_cuts, cX8_cuts, 3, (some .int), 7, 0, 0)
theorem cb_X8_cuts : CB M_X8_cuts 0 := ⟨(big_of 50 (by decide +kernel) (by decide +kernel)), (big_of 659 (by decide +kernel) (by decide +kernel)), by decide +kernel⟩
abbrev M_X8_roster : MC := (yX8_roster, cX8_roster, 3, (some .int), 7, 0, 0)
theorem cb_X8_roster : CB M_X8_roster 2 := ⟨(big_of 50 (by decide +kernel) (by decide +kernel)), (big_of 670 (by decide +kernel) (by decide +kernel)), by decide +kernel⟩
abbrev M_X8_place : MC := (yX8_place, cX8_place, 6, (some .int), 8, 0, 0)
theorem cb_X8_place : CB M_X8_place 1 := ⟨(big_of 50 (by decide +kernel) (by decide +kernel)), (big_of 702 (by decide +kernel) (by decide +kernel)), by decide +kernel⟩
abbrev M_X8_strong : MC := (yX8_strong, cX8_strong, 7, (some .int), 8, 0, 0)
theorem cb_X8_strong : CB M_X8_strong 1 := ⟨(big_of 50 (by decide +kernel) (by decide +kernel)), (big_of 715 (by decide +kernel) (by decide +kernel)), by decide +kernel⟩
abbrev M_X8_who : MC := (yX8_who, cX8_who, 6, (some .int), 5, 0, 0)
theorem cb_X8_who : CB M_X8_who 2 := ⟨(big_of 50 (by decide +kernel) (by decide +kernel)), (big_of 728 (by decide +kernel) (by decide +kernel)), by decide +kernel⟩
abbrev M_X8_knees : MC := (yX8_knees, cX8_knees, 5, (some .int), 6, 0, 0)
theorem cb_X8_knees : CB M_X8_knees 2 := ⟨(big_of 50 (by decide +kernel) (by decide +kernel)), (big_of 740 (by decide +kernel) (by decide +kernel)), by decide +kernel⟩
abbrev M_X8_shirkers : MC := (yX8_shirkers, cX8_shirkers, 7, (some .int), 7, 0, 0)
theorem cb_X8_shirkers : CB M_X8_shirkers 2 := ⟨(big_of 50 (by decide +kernel) (by decide +kernel)), (big_of 751 (by decide +kernel) (by decide +kernel)), by decide +kernel⟩
abbrev M_X8_night : MC := (yX8_night, cX8_night, 5, (some .int), 6, 0, 0)
theorem cb_X8_night : CB M_X8_night 3 := ⟨(big_of 50 (by decide +kernel) (by decide +kernel)), (big_of 769 (by decide +kernel) (by decide +kernel)), by decide +kernel⟩
abbrev M_X8_keep : MC := (yX8_keep, cX8_keep, 1, (some .int), 2, 0, 0)
theorem cb_X8_keep : CB M_X8_keep 0 := ⟨(big_of 50 (by decide +kernel) (by decide +kernel)), (big_of 787 (by decide +kernel) (by decide +kernel)), by decide +kernel⟩
abbrev M_X8_back : MC := (yX8_back, cX8_back, 1, (some .int), 2, 0, 0)
theorem cb_X8_back : CB M_X8_back 0 := ⟨(big_of 50 (by decide +kernel) (by decide +kernel)), (big_of 792 (by decide +kernel) (by decide +kernel)), by decide +kernel⟩
abbrev M_X8_count : MC := (yX8_count, cX8_count, 2, (some .int), 4, 0, 0)
theorem cb_X8_count : CB M_X8_count 1 := ⟨(big_of 50 (by decide +kernel) (by decide +kernel)), (big_of 796 (by decide +kernel) (by decide +kernel)), by decide +kernel⟩
abbrev M_X8_layText : MC := (yX8_layText, cX8_layText, 2, (some .int), 6, 0, 0)
theorem cb_X8_layText : CB M_X8_layText 0 := ⟨(big_of 50 (by decide +kernel) (by decide +kernel)), (big_of 342 (by decide +kernel) (by decide +kernel)), by decide +kernel⟩
abbrev M_X8_standingBay : MC := (yX8_standingBay, cX8_standingBay, 4, (some .int), 4, 0, 0)
theorem cb_X8_standingBay : CB M_X8_standingBay 2 := ⟨(big_of 50 (by decide +kernel) (by decide +kernel)), (big_of 472 (by decide +kernel) (by decide +kernel)), by decide +kernel⟩
abbrev M_X8_wouldHold : MC := (yX8_wouldHold, cX8_wouldHold, 2, (some .boolean), 6, 0, 0)
theorem cb_X8_wouldHold : CB M_X8_wouldHold 1 := ⟨(big_of 50 (by decide +kernel) (by decide +kernel)), (big_of 655 (by decide +kernel) (by decide +kernel)), by decide +kernel⟩
abbrev M_X8_wouldBreak : MC := (yX8_wouldBreak, cX8_wouldBreak, 2, (some .boolean), 6, 0, 0)
theorem cb_X8_wouldBreak : CB M_X8_wouldBreak 1 := ⟨(big_of 50 (by decide +kernel) (by decide +kernel)), (big_of 666 (by decide +kernel) (by decide +kernel)), by decide +kernel⟩
abbrev M_X8_wouldBeHeld : MC := (yX8_wouldBeHeld, cX8_wouldBeHeld, 2, (some .int), 4, 0, 0)
theorem cb_X8_wouldBeHeld : CB M_X8_wouldBeHeld 1 := ⟨(big_of 50 (by decide +kernel) (by decide +kernel)), (big_of 736 (by decide +kernel) (by decide +kernel)), by decide +kernel⟩
abbrev M_X8_standsWithAt : MC := (yX8_standsWithAt, cX8_standsWithAt, 3, (some .int), 7, 0, 0)
theorem cb_X8_standsWithAt : CB M_X8_standsWithAt 2 := ⟨(big_of 50 (by decide +kernel) (by decide +kernel)), (big_of 706 (by decide +kernel) (by decide +kernel)), by decide +kernel⟩
abbrev M_X8_standsWithStrength : MC := (yX8_standsWithStrength, cX8_standsWithStrength, 3, (some .int), 7, 0, 0)
theorem cb_X8_standsWithStrength : CB M_X8_standsWithStrength 2 := ⟨(big_of 50 (by decide +kernel) (by decide +kernel)), (big_of 724 (by decide +kernel) (by decide +kernel)), by decide +kernel⟩
abbrev M_X8_shirkWeight : MC := (yX8_shirkWeight, cX8_shirkWeight, 4, (some .int), 2, 0, 0)
theorem cb_X8_shirkWeight : CB M_X8_shirkWeight 2 := ⟨(big_of 50 (by decide +kernel) (by decide +kernel)), (big_of 758 (by decide +kernel) (by decide +kernel)), by decide +kernel⟩
abbrev M_X8_standsWithShirkers : MC := (yX8_standsWithShirkers, cX8_standsWithShirkers, 2, (some .boolean), 6, 0, 0)
theorem cb_X8_standsWithShirkers : CB M_X8_standsWithShirkers 1 := ⟨(big_of 50 (by decide +kernel) (by decide +kernel)), (big_of 762 (by decide +kernel) (by decide +kernel)), by decide +kernel⟩
abbrev M_X8_hasBit : MC := (yX8_hasBit, cX8_hasBit, 2, (some .boolean), 1, 0, 0)
theorem cb_X8_hasBit : CB M_X8_hasBit 2 := ⟨(big_of 50 (by decide +kernel) (by decide +kernel)), (big_of 499 (by decide +kernel) (by decide +kernel)), by decide +kernel⟩
abbrev M_X8_isPart : MC := (yX8_isPart, cX8_isPart, 2, (some .boolean), 1, 0, 0)
theorem cb_X8_isPart : CB M_X8_isPart 2 := ⟨(big_of 50 (by decide +kernel) (by decide +kernel)), (big_of 662 (by decide +kernel) (by decide +kernel)), by decide +kernel⟩
abbrev M_X8_isFewer : MC := (yX8_isFewer, cX8_isFewer, 2, (some .boolean), 2, 0, 0)
theorem cb_X8_isFewer : CB M_X8_isFewer 2 := ⟨(big_of 50 (by decide +kernel) (by decide +kernel)), (big_of 640 (by decide +kernel) (by decide +kernel)), by decide +kernel⟩
abbrev M_X8_draw : MC := (yX8_draw, cX8_draw, 4, (some .int), 1, 0, 0)
theorem cb_X8_draw : CB M_X8_draw 2 := ⟨(big_of 50 (by decide +kernel) (by decide +kernel)), (big_of 772 (by decide +kernel) (by decide +kernel)), by decide +kernel⟩
abbrev M_X8_power : MC := (yX8_power, cX8_power, 4, (some .int), 1, 0, 0)
theorem cb_X8_power : CB M_X8_power 2 := ⟨(big_of 50 (by decide +kernel) (by decide +kernel)), (big_of 754 (by decide +kernel) (by decide +kernel)), by decide +kernel⟩
abbrev M_X8_commonDivisor : MC := (yX8_commonDivisor, cX8_commonDivisor, 6, (some .int), 1, 0, 0)
theorem cb_X8_commonDivisor : CB M_X8_commonDivisor 2 := ⟨(big_of 50 (by decide +kernel) (by decide +kernel)), (big_of 765 (by decide +kernel) (by decide +kernel)), by decide +kernel⟩
abbrev M_X9_in : MC := (yX9_in, cX9_in, 3, (some .boolean), 1, 0, 0)
theorem cb_X9_in : CB M_X9_in 3 := ⟨(big_of 63 (by decide +kernel) (by decide +kernel)), (big_of 821 (by decide +kernel) (by decide +kernel)), by decide +kernel⟩
abbrev M_X9_has : MC := (yX9_has, cX9_has, 2, (some .boolean), 1, 0, 0)
theorem cb_X9_has : CB M_X9_has 2 := ⟨(big_of 63 (by decide +kernel) (by decide +kernel)), (big_of 919 (by decide +kernel) (by decide +kernel)), by decide +kernel⟩
abbrev M_X9_ones : MC := (yX9_ones, cX9_ones, 3, (some .int), 1, 0, 0)
theorem cb_X9_ones : CB M_X9_ones 1 := ⟨(big_of 63 (by decide +kernel) (by decide +kernel)), (big_of 1033 (by decide +kernel) (by decide +kernel)), by decide +kernel⟩
abbrev M_X9_isBay : MC := (yX9_isBay, cX9_isBay, 2, (some .boolean), 2, 0, 0)
theorem cb_X9_isBay : CB M_X9_isBay 1 := ⟨(big_of 63 (by decide +kernel) (by decide +kernel)), (big_of 912 (by decide +kernel) (by decide +kernel)), by decide +kernel⟩
abbrev M_X9_isButtress : MC := (yX9_isButtress, cX9_isButtress, 2, (some .boolean), 2, 0, 0)
theorem cb_X9_isButtress : CB M_X9_isButtress 1 := ⟨(big_of 63 (by decide +kernel) (by decide +kernel)), (big_of 947 (by decide +kernel) (by decide +kernel)), by decide +kernel⟩
abbrev M_X9_write : MC := (yX9_write, cX9_write, 2, (some .int), 2, 0, 0)
theorem cb_X9_write : CB M_X9_write 1 := ⟨(big_of 63 (by decide +kernel) (by decide +kernel)), (big_of 865 (by decide +kernel) (by decide +kernel)), by decide +kernel⟩
abbrev M_X9_wipe : MC := (yX9_wipe, cX9_wipe, 2, (some .int), 1, 0, 0)
theorem cb_X9_wipe : CB M_X9_wipe 0 := ⟨(big_of 63 (by decide +kernel) (by decide +kernel)), (big_of 869 (by decide +kernel) (by decide +kernel)), by decide +kernel⟩
abbrev M_X9_letterAt : MC := (yX9_letterAt, cX9_letterAt, 2, (some .int), 1, 0, 0)
theorem cb_X9_letterAt : CB M_X9_letterAt 1 := ⟨(big_of 63 (by decide +kernel) (by decide +kernel)), (big_of 893 (by decide +kernel) (by decide +kernel)), by decide +kernel⟩
abbrev M_X9_isFigure : MC := (yX9_isFigure, cX9_isFigure, 1, (some .boolean), 2, 0, 0)
theorem cb_X9_isFigure : CB M_X9_isFigure 1 := ⟨(big_of 63 (by decide +kernel) (by decide +kernel)), (big_of 896 (by decide +kernel) (by decide +kernel)), by decide +kernel⟩
abbrev M_X9_number : MC := (yX9_number, cX9_number, 6, (some .int), 3, 0, 0)
theorem cb_X9_number : CB M_X9_number 3 := ⟨(big_of 63 (by decide +kernel) (by decide +kernel)), (big_of 889 (by decide +kernel) (by decide +kernel)), by decide +kernel⟩
abbrev M_X9_begins : MC := (yX9_begins, cX9_begins, 2, none, 1, 0, 0)
theorem cb_X9_begins : CB M_X9_begins 0 := ⟨(big_of 63 (by decide +kernel) (by decide +kernel)), (big_of 806 (by decide +kernel) (by decide +kernel)), by decide +kernel⟩
abbrev M_X9_bayOf : MC := (yX9_bayOf, cX9_bayOf, 3, none, 1, 0, 0)
theorem cb_X9_bayOf : CB M_X9_bayOf 2 := ⟨(big_of 63 (by decide +kernel) (by decide +kernel)), (big_of 810 (by decide +kernel) (by decide +kernel)), by decide +kernel⟩
abbrev M_X9_buttressOf : MC := (yX9_buttressOf, cX9_buttressOf, 6, none, 1, 0, 0)
theorem cb_X9_buttressOf : CB M_X9_buttressOf 4 := ⟨(big_of 63 (by decide +kernel) (by decide +kernel)), (big_of 814 (by decide +kernel) (by decide +kernel)), by decide +kernel⟩
abbrev M_X9_readsBay : MC := (yX9_readsBay, cX9_readsBay, 3, (some .boolean), 4, 0, 0)
theorem cb_X9_readsBay : CB M_X9_readsBay 0 := ⟨(big_of 63 (by decide +kernel) (by decide +kernel)), (big_of 885 (by decide +kernel) (by decide +kernel)), by decide +kernel⟩
abbrev M_X9_readsButtress : MC := (yX9_readsButtress, cX9_readsButtress, 5, (some .boolean), 4, 0, 0)
theorem cb_X9_readsButtress : CB M_X9_readsButtress 0 := ⟨(big_of 63 (by decide +kernel) (by decide +kernel)), (big_of 900 (by decide +kernel) (by decide +kernel)), by decide +kernel⟩
abbrev M_X9_readsItem : MC := (yX9_readsItem, cX9_readsItem, 3, (some .boolean), 5, 0, 0)
theorem cb_X9_readsItem : CB M_X9_readsItem 1 := ⟨(big_of 63 (by decide +kernel) (by decide +kernel)), (big_of 881 (by decide +kernel) (by decide +kernel)), by decide +kernel⟩
abbrev M_X9_readsAll : MC := (yX9_readsAll, cX9_readsAll, 2, (some .int), 6, 0, 0)
theorem cb_X9_readsAll : CB M_X9_readsAll 0 := ⟨(big_of 63 (by decide +kernel) (by decide +kernel)), (big_of 877 (by decide +kernel) (by decide +kernel)), by decide +kernel⟩
abbrev M_X9_fault : MC := (yX9_fault, cX9_fault, 1, (some .int), 7, 0, 0)
theorem cb_X9_fault : CB M_X9_fault 0 := ⟨(big_of 63 (by decide +kernel) (by decide +kernel)), (big_of 873 (by decide +kernel) (by decide +kernel)), by decide +kernel⟩
abbrev M_X9_lays : MC := (yX9_lays, cX9_lays, 2, none, 2, 0, 0)
theorem cb_X9_lays : CB M_X9_lays 0 := ⟨(big_of 63 (by decide +kernel) (by decide +kernel)), (big_of 818 (by decide +kernel) (by decide +kernel)), by decide +kernel⟩
abbrev M_X9_lay : MC := (yX9_lay, cX9_lay, 1, (some .int), 7, 0, 0)
theorem cb_X9_lay : CB M_X9_lay 0 := ⟨(big_of 63 (by decide +kernel) (by decide +kernel)), (big_of 904 (by decide +kernel) (by decide +kernel)), by decide +kernel⟩
abbrev M_X9_hasFallen : MC := (yX9_hasFallen, cX9_hasFallen, 2, (some .boolean), 2, 0, 0)
theorem cb_X9_hasFallen : CB M_X9_hasFallen 1 := ⟨(big_of 63 (by decide +kernel) (by decide +kernel)), (big_of 916 (by decide +kernel) (by decide +kernel)), by decide +kernel⟩
abbrev M_X9_load : MC := (yX9_load, cX9_load, 4, (some .int), 3, 0, 0)
theorem cb_X9_load : CB M_X9_load 1 := ⟨(big_of 63 (by decide +kernel) (by decide +kernel)), (big_of 923 (by decide +kernel) (by decide +kernel)), by decide +kernel⟩
abbrev M_X9_strengths : MC := (yX9_strengths, cX9_strengths, 4, (some .int), 2, 0, 0)
theorem cb_X9_strengths : CB M_X9_strengths 1 := ⟨(big_of 63 (by decide +kernel) (by decide +kernel)), (big_of 931 (by decide +kernel) (by decide +kernel)), by decide +kernel⟩
abbrev M_X9_helps : MC := (yX9_helps, cX9_helps, 3, (some .int), 4, 0, 0)
theorem cb_X9_helps : CB M_X9_helps 1 := ⟨(big_of 63 (by decide +kernel) (by decide +kernel)), (big_of 935 (by decide +kernel) (by decide +kernel)), by decide +kernel⟩
abbrev M_X9_props : MC := (yX9_props, cX9_props, 2, (some .int), 5, 0, 0)
theorem cb_X9_props : CB M_X9_props 1 := ⟨(big_of 63 (by decide +kernel) (by decide +kernel)), (big_of 927 (by decide +kernel) (by decide +kernel)), by decide +kernel⟩
abbrev M_X9_isHeld : MC := (yX9_isHeld, cX9_isHeld, 2, (some .boolean), 6, 0, 0)
theorem cb_X9_isHeld : CB M_X9_isHeld 1 := ⟨(big_of 63 (by decide +kernel) (by decide +kernel)), (big_of 939 (by decide +kernel) (by decide +kernel)), by decide +kernel⟩
abbrev M_X9_heldNow : MC := (yX9_heldNow, cX9_heldNow, 3, (some .int), 7, 0, 0)
theorem cb_X9_heldNow : CB M_X9_heldNow 0 := ⟨(big_of 63 (by decide +kernel) (by decide +kernel)), (big_of 971 (by decide +kernel) (by decide +kernel)), by decide +kernel⟩
abbrev M_X9_bay : MC := (yX9_bay, cX9_bay, 3, (some .int), 7, 0, 0)
theorem cb_X9_bay : CB M_X9_bay 2 := ⟨(big_of 63 (by decide +kernel) (by decide +kernel)), (big_of 908 (by decide +kernel) (by decide +kernel)), by decide +kernel⟩
abbrev M_X9_buttress : MC := (yX9_buttress, cX9_buttress, 3, (some .int), 3, 0, 0)
theorem cb_X9_buttress : CB M_X9_buttress 2 := ⟨(big_of 63 (by decide +kernel) (by decide +kernel)), (big_of 943 (by decide +kernel) (by decide +kernel)), by decide +kernel⟩
abbrev M_X9_areCarts : MC := (yX9_areCarts, cX9_areCarts, 2, (some .boolean), 2, 0, 0)
theorem cb_X9_areCarts : CB M_X9_areCarts 1 := ⟨(big_of 63 (by decide +kernel) (by decide +kernel)), (big_of 955 (by decide +kernel) (by decide +kernel)), by decide +kernel⟩
abbrev M_X9_carts : MC := (yX9_carts, cX9_carts, 2, (some .int), 3, 0, 0)
theorem cb_X9_carts : CB M_X9_carts 1 := ⟨(big_of 63 (by decide +kernel) (by decide +kernel)), (big_of 951 (by decide +kernel) (by decide +kernel)), by decide +kernel⟩
abbrev M_X9_keeps : MC := (yX9_keeps, cX9_keeps, 2, none, 1, 0, 0)
theorem cb_X9_keeps : CB M_X9_keeps 0 := ⟨(big_of 63 (by decide +kernel) (by decide +kernel)), (big_of 963 (by decide +kernel) (by decide +kernel)), by decide +kernel⟩
abbrev M_X9_isAlone : MC := (yX9_isAlone, cX9_isAlone, 4, (some .boolean), 2, 0, 0)
theorem cb_X9_isAlone : CB M_X9_isAlone 1 := ⟨(big_of 63 (by decide +kernel) (by decide +kernel)), (big_of 975 (by decide +kernel) (by decide +kernel)), by decide +kernel⟩
abbrev M_X9_passes : MC := (yX9_passes, cX9_passes, 6, none, 8, 0, 0)
theorem cb_X9_passes : CB M_X9_passes 0 := ⟨(big_of 63 (by decide +kernel) (by decide +kernel)), (big_of 967 (by decide +kernel) (by decide +kernel)), by decide +kernel⟩
abbrev M_X9_pass : MC := (yX9_pass, cX9_pass, 3, (some .int), 9, 0, 0)
theorem cb_X9_pass : CB M_X9_pass 1 := ⟨(big_of 63 (by decide +kernel) (by decide +kernel)), (big_of 959 (by decide +kernel) (by decide +kernel)), by decide +kernel⟩
abbrev M_X9_isBarred : MC := (yX9_isBarred, cX9_isBarred, 2, (some .boolean), 3, 0, 0)
theorem cb_X9_isBarred : CB M_X9_isBarred 1 := ⟨(big_of 63 (by decide +kernel) (by decide +kernel)), (big_of 987 (by decide +kernel) (by decide +kernel)), by decide +kernel⟩
abbrev M_X9_mayDown : MC := (yX9_mayDown, cX9_mayDown, 2, (some .boolean), 4, 0, 0)
theorem cb_X9_mayDown : CB M_X9_mayDown 1 := ⟨(big_of 63 (by decide +kernel) (by decide +kernel)), (big_of 983 (by decide +kernel) (by decide +kernel)), by decide +kernel⟩
abbrev M_X9_mayUp : MC := (yX9_mayUp, cX9_mayUp, 2, (some .boolean), 4, 0, 0)
theorem cb_X9_mayUp : CB M_X9_mayUp 1 := ⟨(big_of 63 (by decide +kernel) (by decide +kernel)), (big_of 995 (by decide +kernel) (by decide +kernel)), by decide +kernel⟩
abbrev M_X9_down : MC := (yX9_down, cX9_down, 2, (some .int), 5, 0, 0)
theorem cb_X9_down : CB M_X9_down 1 := ⟨(big_of 63 (by decide +kernel) (by decide +kernel)), (big_of 979 (by decide +kernel) (by decide +kernel)), by decide +kernel⟩
abbrev M_X9_up : MC := (yX9_up, cX9_up, 4, (some .int), 5, 0, 0)
theorem cb_X9_up : CB M_X9_up 1 := ⟨(big_of 63 (by decide +kernel) (by decide +kernel)), (big_of 991 (by decide +kernel) (by decide +kernel)), by decide +kernel⟩
abbrev M_X9_send : MC := (yX9_send, cX9_send, 4, (some .int), 3, 0, 0)
theorem cb_X9_send : CB M_X9_send 2 := ⟨(big_of 63 (by decide +kernel) (by decide +kernel)), (big_of 999 (by decide +kernel) (by decide +kernel)), by decide +kernel⟩
abbrev M_X9_undo : MC := (yX9_undo, cX9_undo, 2, (some .int), 1, 0, 0)
theorem cb_X9_undo : CB M_X9_undo 0 := ⟨(big_of 63 (by decide +kernel) (by decide +kernel)), (big_of 1003 (by decide +kernel) (by decide +kernel)), by decide +kernel⟩
abbrev M_X9_holds : MC := (yX9_holds, cX9_holds, 2, none, 1, 0, 0)
theorem cb_X9_holds : CB M_X9_holds 0 := ⟨(big_of 63 (by decide +kernel) (by decide +kernel)), (big_of 1011 (by decide +kernel) (by decide +kernel)), by decide +kernel⟩
abbrev M_X9_lets : MC := (yX9_lets, cX9_lets, 2, none, 1, 0, 0)
theorem cb_X9_lets : CB M_X9_lets 0 := ⟨(big_of 63 (by decide +kernel) (by decide +kernel)), (big_of 1019 (by decide +kernel) (by decide +kernel)), by decide +kernel⟩
abbrev M_X9_falls : MC := (yX9_falls, cX9_falls, 4, (some .int), 9, 0, 0)
theorem cb_X9_falls : CB M_X9_falls 1 := ⟨(big_of 63 (by decide +kernel) (by decide +kernel)), (big_of 1015 (by decide +kernel) (by decide +kernel)), by decide +kernel⟩
abbrev M_X9_lowest : MC := (yX9_lowest, cX9_lowest, 2, (some .int), 2, 0, 0)
theorem cb_X9_lowest : CB M_X9_lowest 1 := ⟨(big_of 63 (by decide +kernel) (by decide +kernel)), (big_of 1022 (by decide +kernel) (by decide +kernel)), by decide +kernel⟩
abbrev M_X9_stands : MC := (yX9_stands, cX9_stands, 4, (some .int), 10, 0, 0)
theorem cb_X9_stands : CB M_X9_stands 1 := ⟨(big_of 63 (by decide +kernel) (by decide +kernel)), (big_of 1007 (by decide +kernel) (by decide +kernel)), by decide +kernel⟩
abbrev M_X9_useful : MC := (yX9_useful, cX9_useful, 3, (some .int), 3, 0, 0)
theorem cb_X9_useful : CB M_X9_useful 0 := ⟨(big_of 63 (by decide +kernel) (by decide +kernel)), (big_of 1030 (by decide +kernel) (by decide +kernel)), by decide +kernel⟩
abbrev M_X9_needed : MC := (yX9_needed, cX9_needed, 4, (some .int), 10, 0, 0)
theorem cb_X9_needed : CB M_X9_needed 0 := ⟨(big_of 63 (by decide +kernel) (by decide +kernel)), (big_of 1026 (by decide +kernel) (by decide +kernel)), by decide +kernel⟩
abbrev M_X9_cuts : MC := (yX9_cuts, cX9_cuts, 3, (some .int), 10, 0, 0)
theorem cb_X9_cuts : CB M_X9_cuts 0 := ⟨(big_of 63 (by decide +kernel) (by decide +kernel)), (big_of 1037 (by decide +kernel) (by decide +kernel)), by decide +kernel⟩
abbrev M_X9_rises : MC := (yX9_rises, cX9_rises, 2, none, 3, 0, 0)
theorem cb_X9_rises : CB M_X9_rises 1 := ⟨(big_of 63 (by decide +kernel) (by decide +kernel)), (big_of 1052 (by decide +kernel) (by decide +kernel)), by decide +kernel⟩
abbrev M_X9_hourOf : MC := (yX9_hourOf, cX9_hourOf, 6, (some .int), 1, 0, 0)
theorem cb_X9_hourOf : CB M_X9_hourOf 4 := ⟨(big_of 63 (by decide +kernel) (by decide +kernel)), (big_of 1048 (by decide +kernel) (by decide +kernel)), by decide +kernel⟩
abbrev M_X9_isRoster : MC := (yX9_isRoster, cX9_isRoster, 10, (some .boolean), 9, 0, 0)
theorem cb_X9_isRoster : CB M_X9_isRoster 2 := ⟨(big_of 63 (by decide +kernel) (by decide +kernel)), (big_of 1045 (by decide +kernel) (by decide +kernel)), by decide +kernel⟩
abbrev M_X9_roster : MC := (yX9_roster, cX9_roster, 6, (some .int), 10, 0, 0)
theorem cb_X9_roster : CB M_X9_roster 2 := ⟨(big_of 63 (by decide +kernel) (by decide +kernel)), (big_of 1041 (by decide +kernel) (by decide +kernel)), by decide +kernel⟩
abbrev M_X9_place : MC := (yX9_place, cX9_place, 6, (some .int), 10, 0, 0)
theorem cb_X9_place : CB M_X9_place 1 := ⟨(big_of 63 (by decide +kernel) (by decide +kernel)), (big_of 1056 (by decide +kernel) (by decide +kernel)), by decide +kernel⟩
abbrev M_X9_strong : MC := (yX9_strong, cX9_strong, 6, (some .int), 10, 0, 0)
theorem cb_X9_strong : CB M_X9_strong 1 := ⟨(big_of 63 (by decide +kernel) (by decide +kernel)), (big_of 1060 (by decide +kernel) (by decide +kernel)), by decide +kernel⟩
abbrev M_X9_who : MC := (yX9_who, cX9_who, 9, (some .int), 8, 0, 0)
theorem cb_X9_who : CB M_X9_who 2 := ⟨(big_of 63 (by decide +kernel) (by decide +kernel)), (big_of 1064 (by decide +kernel) (by decide +kernel)), by decide +kernel⟩
abbrev M_X9_knees : MC := (yX9_knees, cX9_knees, 7, (some .int), 9, 0, 0)
theorem cb_X9_knees : CB M_X9_knees 2 := ⟨(big_of 63 (by decide +kernel) (by decide +kernel)), (big_of 1068 (by decide +kernel) (by decide +kernel)), by decide +kernel⟩
abbrev M_X9_shirkers : MC := (yX9_shirkers, cX9_shirkers, 9, (some .int), 10, 0, 0)
theorem cb_X9_shirkers : CB M_X9_shirkers 2 := ⟨(big_of 63 (by decide +kernel) (by decide +kernel)), (big_of 1072 (by decide +kernel) (by decide +kernel)), by decide +kernel⟩
abbrev M_X9_turn : MC := (yX9_turn, cX9_turn, 4, none, 5, 0, 0)
theorem cb_X9_turn : CB M_X9_turn 1 := ⟨(big_of 63 (by decide +kernel) (by decide +kernel)), (big_of 1083 (by decide +kernel) (by decide +kernel)), by decide +kernel⟩
abbrev M_X9_night : MC := (yX9_night, cX9_night, 7, (some .int), 9, 0, 0)
theorem cb_X9_night : CB M_X9_night 3 := ⟨(big_of 63 (by decide +kernel) (by decide +kernel)), (big_of 1076 (by decide +kernel) (by decide +kernel)), by decide +kernel⟩
abbrev M_X9_keep : MC := (yX9_keep, cX9_keep, 2, (some .int), 1, 0, 0)
theorem cb_X9_keep : CB M_X9_keep 0 := ⟨(big_of 63 (by decide +kernel) (by decide +kernel)), (big_of 1087 (by decide +kernel) (by decide +kernel)), by decide +kernel⟩
abbrev M_X9_back : MC := (yX9_back, cX9_back, 2, (some .int), 1, 0, 0)
theorem cb_X9_back : CB M_X9_back 0 := ⟨(big_of 63 (by decide +kernel) (by decide +kernel)), (big_of 1091 (by decide +kernel) (by decide +kernel)), by decide +kernel⟩
abbrev M_X9_count : MC := (yX9_count, cX9_count, 2, (some .int), 8, 0, 0)
theorem cb_X9_count : CB M_X9_count 1 := ⟨(big_of 63 (by decide +kernel) (by decide +kernel)), (big_of 1095 (by decide +kernel) (by decide +kernel)), by decide +kernel⟩
abbrev M_X0_heldBays : MC := (yX0_heldBays, cX0_heldBays, 5, (some .int), 3, 0, 0)
theorem cb_X0_heldBays : CB M_X0_heldBays 2 := ⟨(big_of 53 (by decide +kernel) (by decide +kernel)), (big_of 476 (by decide +kernel) (by decide +kernel)), by decide +kernel⟩
abbrev M_X0_weighRaised : MC := (yX0_weighRaised, cX0_weighRaised, 5, none, 2, 0, 0)
theorem cb_X0_weighRaised : CB M_X0_weighRaised 2 := ⟨(big_of 53 (by decide +kernel) (by decide +kernel)), (big_of 480 (by decide +kernel) (by decide +kernel)), by decide +kernel⟩
abbrev M_X0_thrown : MC := (yX0_thrown, cX0_thrown, 3, (some .int), 2, 0, 0)
theorem cb_X0_thrown : CB M_X0_thrown 3 := ⟨(big_of 53 (by decide +kernel) (by decide +kernel)), (big_of 488 (by decide +kernel) (by decide +kernel)), by decide +kernel⟩
abbrev M_X0_lent : MC := (yX0_lent, cX0_lent, 4, (some .int), 2, 0, 0)
theorem cb_X0_lent : CB M_X0_lent 3 := ⟨(big_of 53 (by decide +kernel) (by decide +kernel)), (big_of 493 (by decide +kernel) (by decide +kernel)), by decide +kernel⟩
abbrev M_X0_goBy : MC := (yX0_goBy, cX0_goBy, 7, (some .int), 4, 0, 0)
theorem cb_X0_goBy : CB M_X0_goBy 2 := ⟨(big_of 53 (by decide +kernel) (by decide +kernel)), (big_of 539 (by decide +kernel) (by decide +kernel)), by decide +kernel⟩
abbrev M_X0_tiring : MC := (yX0_tiring, cX0_tiring, 4, (some .int), 3, 0, 0)
theorem cb_X0_tiring : CB M_X0_tiring 3 := ⟨(big_of 53 (by decide +kernel) (by decide +kernel)), (big_of 544 (by decide +kernel) (by decide +kernel)), by decide +kernel⟩
abbrev M_X0_resting : MC := (yX0_resting, cX0_resting, 2, (some .int), 1, 0, 0)
theorem cb_X0_resting : CB M_X0_resting 2 := ⟨(big_of 53 (by decide +kernel) (by decide +kernel)), (big_of 553 (by decide +kernel) (by decide +kernel)), by decide +kernel⟩
abbrev M_X0_isAlone : MC := (yX0_isAlone, cX0_isAlone, 5, (some .boolean), 2, 0, 0)
theorem cb_X0_isAlone : CB M_X0_isAlone 3 := ⟨(big_of 53 (by decide +kernel) (by decide +kernel)), (big_of 547 (by decide +kernel) (by decide +kernel)), by decide +kernel⟩
abbrev M_X0_ageBays : MC := (yX0_ageBays, cX0_ageBays, 5, (some .int), 2, 0, 0)
theorem cb_X0_ageBays : CB M_X0_ageBays 3 := ⟨(big_of 53 (by decide +kernel) (by decide +kernel)), (big_of 557 (by decide +kernel) (by decide +kernel)), by decide +kernel⟩
abbrev M_X0_leaveTired : MC := (yX0_leaveTired, cX0_leaveTired, 5, none, 2, 0, 0)
theorem cb_X0_leaveTired : CB M_X0_leaveTired 3 := ⟨(big_of 53 (by decide +kernel) (by decide +kernel)), (big_of 561 (by decide +kernel) (by decide +kernel)), by decide +kernel⟩
abbrev M_X1_readWall : MC := (yX1_readWall, cX1_readWall, 5, (some .int), 5, 0, 0)
theorem cb_X1_readWall : CB M_X1_readWall 2 := ⟨(big_of 52 (by decide +kernel) (by decide +kernel)), (big_of 346 (by decide +kernel) (by decide +kernel)), by decide +kernel⟩
abbrev M_X1_readItem : MC := (yX1_readItem, cX1_readItem, 6, (some .boolean), 4, 0, 0)
theorem cb_X1_readItem : CB M_X1_readItem 2 := ⟨(big_of 52 (by decide +kernel) (by decide +kernel)), (big_of 354 (by decide +kernel) (by decide +kernel)), by decide +kernel⟩
abbrev M_X1_readNumber : MC := (yX1_readNumber, cX1_readNumber, 5, (some .boolean), 2, 0, 0)
theorem cb_X1_readNumber : CB M_X1_readNumber 2 := ⟨(big_of 52 (by decide +kernel) (by decide +kernel)), (big_of 365 (by decide +kernel) (by decide +kernel)), by decide +kernel⟩
abbrev M_X1_takeItem : MC := (yX1_takeItem, cX1_takeItem, 3, (some .boolean), 3, 0, 0)
theorem cb_X1_takeItem : CB M_X1_takeItem 2 := ⟨(big_of 52 (by decide +kernel) (by decide +kernel)), (big_of 372 (by decide +kernel) (by decide +kernel)), by decide +kernel⟩
abbrev M_X1_numbersBehind : MC := (yX1_numbersBehind, cX1_numbersBehind, 1, (some .int), 1, 0, 0)
theorem cb_X1_numbersBehind : CB M_X1_numbersBehind 1 := ⟨(big_of 52 (by decide +kernel) (by decide +kernel)), (big_of 361 (by decide +kernel) (by decide +kernel)), by decide +kernel⟩
abbrev M_X1_figure : MC := (yX1_figure, cX1_figure, 1, (some .int), 1, 0, 0)
theorem cb_X1_figure : CB M_X1_figure 1 := ⟨(big_of 52 (by decide +kernel) (by decide +kernel)), (big_of 368 (by decide +kernel) (by decide +kernel)), by decide +kernel⟩
abbrev M_X2_findFirst : MC := (yX2_findFirst, cX2_findFirst, 4, (some .boolean), 6, 0, 0)
theorem cb_X2_findFirst : CB M_X2_findFirst 3 := ⟨(big_of 56 (by decide +kernel) (by decide +kernel)), (big_of 674 (by decide +kernel) (by decide +kernel)), by decide +kernel⟩
abbrev M_X2_isHopeless : MC := (yX2_isHopeless, cX2_isHopeless, 5, (some .boolean), 5, 0, 0)
theorem cb_X2_isHopeless : CB M_X2_isHopeless 2 := ⟨(big_of 56 (by decide +kernel) (by decide +kernel)), (big_of 680 (by decide +kernel) (by decide +kernel)), by decide +kernel⟩
abbrev M_X2_hourOf : MC := (yX2_hourOf, cX2_hourOf, 2, (some .int), 2, 0, 0)
theorem cb_X2_hourOf : CB M_X2_hourOf 1 := ⟨(big_of 56 (by decide +kernel) (by decide +kernel)), (big_of 698 (by decide +kernel) (by decide +kernel)), by decide +kernel⟩
abbrev M_X2_tryHour (d : Nat) : MC := (yX2_tryHour, cX2_tryHour, 10, none, d, 0, 0)
theorem cb_X2_tryHour : CB (M_X2_tryHour 0) 4 := ⟨(big_of 56 (by decide +kernel) (by decide +kernel)), (big_of 686 (by decide +kernel) (by decide +kernel)), by decide +kernel⟩
abbrev M_X2_oneHourMore : MC := (yX2_oneHourMore, cX2_oneHourMore, 3, (some .int), 2, 0, 0)
theorem cb_X2_oneHourMore : CB M_X2_oneHourMore 1 := ⟨(big_of 56 (by decide +kernel) (by decide +kernel)), (big_of 690 (by decide +kernel) (by decide +kernel)), by decide +kernel⟩
abbrev M_X2_figurePlace : MC := (yX2_figurePlace, cX2_figurePlace, 1, (some .int), 1, 0, 0)
theorem cb_X2_figurePlace : CB M_X2_figurePlace 1 := ⟨(big_of 56 (by decide +kernel) (by decide +kernel)), (big_of 694 (by decide +kernel) (by decide +kernel)), by decide +kernel⟩
abbrev M_X3_begin : MC := (yX3_begin, cX3_begin, 3, none, 2, 0, 0)
theorem cb_X3_begin : CB M_X3_begin 1 := ⟨(big_of 55 (by decide +kernel) (by decide +kernel)), (big_of 400 (by decide +kernel) (by decide +kernel)), by decide +kernel⟩
abbrev M_X3_takeFrom : MC := (yX3_takeFrom, cX3_takeFrom, 2, none, 1, 0, 0)
theorem cb_X3_takeFrom : CB M_X3_takeFrom 1 := ⟨(big_of 55 (by decide +kernel) (by decide +kernel)), (big_of 529 (by decide +kernel) (by decide +kernel)), by decide +kernel⟩
abbrev M_X3_isUp : MC := (yX3_isUp, cX3_isUp, 2, (some .boolean), 1, 0, 0)
theorem cb_X3_isUp : CB M_X3_isUp 1 := ⟨(big_of 55 (by decide +kernel) (by decide +kernel)), (big_of 484 (by decide +kernel) (by decide +kernel)), by decide +kernel⟩
abbrev M_X3_hasFallen : MC := (yX3_hasFallen, cX3_hasFallen, 2, (some .boolean), 1, 0, 0)
theorem cb_X3_hasFallen : CB M_X3_hasFallen 1 := ⟨(big_of 55 (by decide +kernel) (by decide +kernel)), (big_of 468 (by decide +kernel) (by decide +kernel)), by decide +kernel⟩
abbrev M_X3_comeDown : MC := (yX3_comeDown, cX3_comeDown, 2, none, 1, 0, 0)
theorem cb_X3_comeDown : CB M_X3_comeDown 1 := ⟨(big_of 55 (by decide +kernel) (by decide +kernel)), (big_of 565 (by decide +kernel) (by decide +kernel)), by decide +kernel⟩
abbrev M_X3_goUp : MC := (yX3_goUp, cX3_goUp, 2, none, 1, 0, 0)
theorem cb_X3_goUp : CB M_X3_goUp 1 := ⟨(big_of 55 (by decide +kernel) (by decide +kernel)), (big_of 594 (by decide +kernel) (by decide +kernel)), by decide +kernel⟩
abbrev M_X3_canComeDown : MC := (yX3_canComeDown, cX3_canComeDown, 3, (some .boolean), 4, 0, 0)
theorem cb_X3_canComeDown : CB M_X3_canComeDown 2 := ⟨(big_of 55 (by decide +kernel) (by decide +kernel)), (big_of 573 (by decide +kernel) (by decide +kernel)), by decide +kernel⟩
abbrev M_X3_canGoUp : MC := (yX3_canGoUp, cX3_canGoUp, 3, (some .boolean), 4, 0, 0)
theorem cb_X3_canGoUp : CB M_X3_canGoUp 2 := ⟨(big_of 55 (by decide +kernel) (by decide +kernel)), (big_of 589 (by decide +kernel) (by decide +kernel)), by decide +kernel⟩
abbrev M_X3_isScared : MC := (yX3_isScared, cX3_isScared, 3, (some .boolean), 3, 0, 0)
theorem cb_X3_isScared : CB M_X3_isScared 2 := ⟨(big_of 55 (by decide +kernel) (by decide +kernel)), (big_of 579 (by decide +kernel) (by decide +kernel)), by decide +kernel⟩
abbrev M_X3_upAt : MC := (yX3_upAt, cX3_upAt, 5, (some .int), 2, 0, 0)
theorem cb_X3_upAt : CB M_X3_upAt 2 := ⟨(big_of 55 (by decide +kernel) (by decide +kernel)), (big_of 598 (by decide +kernel) (by decide +kernel)), by decide +kernel⟩
abbrev M_X3_allAtStanding : MC := (yX3_allAtStanding, cX3_allAtStanding, 4, (some .boolean), 2, 0, 0)
theorem cb_X3_allAtStanding : CB M_X3_allAtStanding 2 := ⟨(big_of 55 (by decide +kernel) (by decide +kernel)), (big_of 650 (by decide +kernel) (by decide +kernel)), by decide +kernel⟩
abbrev M_X4_add : MC := (yX4_add, cX4_add, 2, (some .boolean), 1, 0, 0)
theorem cb_X4_add : CB M_X4_add 1 := ⟨(big_of 51 (by decide +kernel) (by decide +kernel)), (big_of 338 (by decide +kernel) (by decide +kernel)), by decide +kernel⟩
abbrev M_X4_letterAt : MC := (yX4_letterAt, cX4_letterAt, 2, (some .char), 1, 0, 0)
theorem cb_X4_letterAt : CB M_X4_letterAt 1 := ⟨(big_of 51 (by decide +kernel) (by decide +kernel)), (big_of 358 (by decide +kernel) (by decide +kernel)), by decide +kernel⟩
abbrev M_X5_remember : MC := (yX5_remember, cX5_remember, 2, none, 2, 0, 0)
theorem cb_X5_remember : CB M_X5_remember 1 := ⟨(big_of 57 (by decide +kernel) (by decide +kernel)), (big_of 525 (by decide +kernel) (by decide +kernel)), by decide +kernel⟩
abbrev M_X5_restore : MC := (yX5_restore, cX5_restore, 2, (some .boolean), 2, 0, 0)
theorem cb_X5_restore : CB M_X5_restore 1 := ⟨(big_of 57 (by decide +kernel) (by decide +kernel)), (big_of 610 (by decide +kernel) (by decide +kernel)), by decide +kernel⟩
abbrev M_X5_forget : MC := (yX5_forget, cX5_forget, 1, none, 1, 0, 0)
theorem cb_X5_forget : CB M_X5_forget 0 := ⟨(big_of 57 (by decide +kernel) (by decide +kernel)), (big_of 408 (by decide +kernel) (by decide +kernel)), by decide +kernel⟩
abbrev M_X6_startFrom : MC := (yX6_startFrom, cX6_startFrom, 2, none, 2, 0, 0)
theorem cb_X6_startFrom : CB M_X6_startFrom 1 := ⟨(big_of 54 (by decide +kernel) (by decide +kernel)), (big_of 618 (by decide +kernel) (by decide +kernel)), by decide +kernel⟩
abbrev M_X6_fallsBehind : MC := (yX6_fallsBehind, cX6_fallsBehind, 4, (some .int), 5, 0, 0)
theorem cb_X6_fallsBehind : CB M_X6_fallsBehind 2 := ⟨(big_of 54 (by decide +kernel) (by decide +kernel)), (big_of 623 (by decide +kernel) (by decide +kernel)), by decide +kernel⟩
abbrev M_X6_lowestFell : MC := (yX6_lowestFell, cX6_lowestFell, 1, (some .int), 2, 0, 0)
theorem cb_X6_lowestFell : CB M_X6_lowestFell 0 := ⟨(big_of 54 (by decide +kernel) (by decide +kernel)), (big_of 628 (by decide +kernel) (by decide +kernel)), by decide +kernel⟩
abbrev M_X6_standsFor : MC := (yX6_standsFor, cX6_standsFor, 3, (some .int), 6, 0, 0)
theorem cb_X6_standsFor : CB M_X6_standsFor 1 := ⟨(big_of 54 (by decide +kernel) (by decide +kernel)), (big_of 710 (by decide +kernel) (by decide +kernel)), by decide +kernel⟩
abbrev M_X6_givesWayBehind : MC := (yX6_givesWayBehind, cX6_givesWayBehind, 5, (some .boolean), 5, 0, 0)
theorem cb_X6_givesWayBehind : CB M_X6_givesWayBehind 3 := ⟨(big_of 54 (by decide +kernel) (by decide +kernel)), (big_of 744 (by decide +kernel) (by decide +kernel)), by decide +kernel⟩
abbrev M_X6_followDraw : MC := (yX6_followDraw, cX6_followDraw, 5, none, 5, 0, 0)
theorem cb_X6_followDraw : CB M_X6_followDraw 2 := ⟨(big_of 54 (by decide +kernel) (by decide +kernel)), (big_of 779 (by decide +kernel) (by decide +kernel)), by decide +kernel⟩
abbrev M_X7_clear : MC := (yX7_clear, cX7_clear, 1, none, 1, 0, 0)
theorem cb_X7_clear : CB M_X7_clear 0 := ⟨(big_of 58 (by decide +kernel) (by decide +kernel)), (big_of 350 (by decide +kernel) (by decide +kernel)), by decide +kernel⟩
abbrev M_X7_takeFrom : MC := (yX7_takeFrom, cX7_takeFrom, 2, none, 1, 0, 0)
theorem cb_X7_takeFrom : CB M_X7_takeFrom 1 := ⟨(big_of 58 (by decide +kernel) (by decide +kernel)), (big_of 719 (by decide +kernel) (by decide +kernel)), by decide +kernel⟩
abbrev M_X7_addBay : MC := (yX7_addBay, cX7_addBay, 3, (some .boolean), 1, 0, 0)
theorem cb_X7_addBay : CB M_X7_addBay 2 := ⟨(big_of 58 (by decide +kernel) (by decide +kernel)), (big_of 376 (by decide +kernel) (by decide +kernel)), by decide +kernel⟩
abbrev M_X7_addButtress : MC := (yX7_addButtress, cX7_addButtress, 6, (some .boolean), 2, 0, 0)
theorem cb_X7_addButtress : CB M_X7_addButtress 4 := ⟨(big_of 58 (by decide +kernel) (by decide +kernel)), (big_of 380 (by decide +kernel) (by decide +kernel)), by decide +kernel⟩
abbrev M_X7_addCarts : MC := (yX7_addCarts, cX7_addCarts, 2, (some .boolean), 1, 0, 0)
theorem cb_X7_addCarts : CB M_X7_addCarts 1 := ⟨(big_of 58 (by decide +kernel) (by decide +kernel)), (big_of 388 (by decide +kernel) (by decide +kernel)), by decide +kernel⟩
abbrev M_X7_addDown : MC := (yX7_addDown, cX7_addDown, 2, (some .boolean), 2, 0, 0)
theorem cb_X7_addDown : CB M_X7_addDown 1 := ⟨(big_of 58 (by decide +kernel) (by decide +kernel)), (big_of 392 (by decide +kernel) (by decide +kernel)), by decide +kernel⟩
abbrev M_X7_hasBay : MC := (yX7_hasBay, cX7_hasBay, 2, (some .boolean), 1, 0, 0)
theorem cb_X7_hasBay : CB M_X7_hasBay 1 := ⟨(big_of 58 (by decide +kernel) (by decide +kernel)), (big_of 384 (by decide +kernel) (by decide +kernel)), by decide +kernel⟩
abbrev M_X7_hasButtress : MC := (yX7_hasButtress, cX7_hasButtress, 2, (some .boolean), 1, 0, 0)
theorem cb_X7_hasButtress : CB M_X7_hasButtress 1 := ⟨(big_of 58 (by decide +kernel) (by decide +kernel)), (big_of 396 (by decide +kernel) (by decide +kernel)), by decide +kernel⟩
abbrev M_X7_hasCarts : MC := (yX7_hasCarts, cX7_hasCarts, 2, (some .boolean), 2, 0, 0)
theorem cb_X7_hasCarts : CB M_X7_hasCarts 1 := ⟨(big_of 58 (by decide +kernel) (by decide +kernel)), (big_of 513 (by decide +kernel) (by decide +kernel)), by decide +kernel⟩
abbrev M_X7_allBays : MC := (yX7_allBays, cX7_allBays, 1, (some .int), 1, 0, 0)
theorem cb_X7_allBays : CB M_X7_allBays 0 := ⟨(big_of 58 (by decide +kernel) (by decide +kernel)), (big_of 732 (by decide +kernel) (by decide +kernel)), by decide +kernel⟩
abbrev M_X7_allButtresses : MC := (yX7_allButtresses, cX7_allButtresses, 1, (some .int), 1, 0, 0)
theorem cb_X7_allButtresses : CB M_X7_allButtresses 0 := ⟨(big_of 58 (by decide +kernel) (by decide +kernel)), (big_of 404 (by decide +kernel) (by decide +kernel)), by decide +kernel⟩
abbrev M_J0_length_8abf5 : MC := (yJ0_length_8abf5, cJ0_length_8abf5, 1, (some .int), 1, 0, 0)
theorem cb_J0_length_8abf5 : CB M_J0_length_8abf5 0 := ⟨(big_of 59 (by decide +kernel) (by decide +kernel)), (big_of 290 (by decide +kernel) (by decide +kernel)), by decide +kernel⟩
abbrev M_J0_coder_7d493 : MC := (yJ0_coder_7d493, cJ0_coder_7d493, 1, (some .byte), 1, 0, 0)
theorem cb_J0_coder_7d493 : CB M_J0_coder_7d493 0 := ⟨(big_of 59 (by decide +kernel) (by decide +kernel)), (big_of 294 (by decide +kernel) (by decide +kernel)), by decide +kernel⟩
abbrev M_J0_charAt_5068e : MC := (yJ0_charAt_5068e, cJ0_charAt_5068e, 2, (some .char), 1, 0, 0)
theorem cb_J0_charAt_5068e : CB M_J0_charAt_5068e 1 := ⟨(big_of 59 (by decide +kernel) (by decide +kernel)), (big_of 300 (by decide +kernel) (by decide +kernel)), by decide +kernel⟩
abbrev M_J0_isLatin1_aae02 : MC := (yJ0_isLatin1_aae02, cJ0_isLatin1_aae02, 1, (some .boolean), 1, 0, 0)
theorem cb_J0_isLatin1_aae02 : CB M_J0_isLatin1_aae02 0 := ⟨(big_of 59 (by decide +kernel) (by decide +kernel)), (big_of 304 (by decide +kernel) (by decide +kernel)), by decide +kernel⟩
abbrev M_J1_charAt_3b067 : MC := (yJ1_charAt_3b067, cJ1_charAt_3b067, 2, (some .char), 1, 0, 0)
theorem cb_J1_charAt_3b067 : CB M_J1_charAt_3b067 2 := ⟨(big_of 60 (by decide +kernel) (by decide +kernel)), (big_of 307 (by decide +kernel) (by decide +kernel)), by decide +kernel⟩
abbrev M_J0_checkIndex_df160 : MC := (yJ0_checkIndex_df160, cJ0_checkIndex_df160, 2, none, 1, 0, 0)
theorem cb_J0_checkIndex_df160 : CB M_J0_checkIndex_df160 2 := ⟨(big_of 59 (by decide +kernel) (by decide +kernel)), (big_of 310 (by decide +kernel) (by decide +kernel)), by decide +kernel⟩
abbrev M_J3_checkIndex_8e157 : MC := (yJ3_checkIndex_8e157, cJ3_checkIndex_8e157, 3, (some .int), 1, 0, 0)
theorem cb_J3_checkIndex_8e157 : CB M_J3_checkIndex_8e157 3 := ⟨(big_of 61 (by decide +kernel) (by decide +kernel)), (big_of 315 (by decide +kernel) (by decide +kernel)), by decide +kernel⟩
abbrev M_J2_charAt_3b067 : MC := (yJ2_charAt_3b067, cJ2_charAt_3b067, 2, (some .char), 1, 0, 0)
theorem cb_J2_charAt_3b067 : CB M_J2_charAt_3b067 2 := ⟨(big_of 62 (by decide +kernel) (by decide +kernel)), (big_of 318 (by decide +kernel) (by decide +kernel)), by decide +kernel⟩
abbrev M_J2_checkIndex_2214a : MC := (yJ2_checkIndex_2214a, cJ2_checkIndex_2214a, 2, none, 1, 0, 0)
theorem cb_J2_checkIndex_2214a : CB M_J2_checkIndex_2214a 2 := ⟨(big_of 62 (by decide +kernel) (by decide +kernel)), (big_of 321 (by decide +kernel) (by decide +kernel)), by decide +kernel⟩
abbrev M_J2_length_9d52b : MC := (yJ2_length_9d52b, cJ2_length_9d52b, 1, (some .int), 1, 0, 0)
theorem cb_J2_length_9d52b : CB M_J2_length_9d52b 1 := ⟨(big_of 62 (by decide +kernel) (by decide +kernel)), (big_of 324 (by decide +kernel) (by decide +kernel)), by decide +kernel⟩
abbrev M_J2_getChar_3b067 : MC := (yJ2_getChar_3b067, cJ2_getChar_3b067, 2, (some .char), 1, 0, 0)
theorem cb_J2_getChar_3b067 : CB M_J2_getChar_3b067 2 := ⟨(big_of 62 (by decide +kernel) (by decide +kernel)), (big_of 328 (by decide +kernel) (by decide +kernel)), by decide +kernel⟩
abbrev M_J9_max_7cf53 : MC := (yJ9_max_7cf53, cJ9_max_7cf53, 2, (some .int), 1, 0, 0)
theorem cb_J9_max_7cf53 : CB M_J9_max_7cf53 2 := ⟨(big_of 64 (by decide +kernel) (by decide +kernel)), (big_of 496 (by decide +kernel) (by decide +kernel)), by decide +kernel⟩
abbrev M_J9_floorMod_7cf53 : MC := (yJ9_floorMod_7cf53, cJ9_floorMod_7cf53, 3, (some .int), 1, 0, 0)
theorem cb_J9_floorMod_7cf53 : CB M_J9_floorMod_7cf53 2 := ⟨(big_of 64 (by decide +kernel) (by decide +kernel)), (big_of 516 (by decide +kernel) (by decide +kernel)), by decide +kernel⟩
abbrev M_J9_min_7cf53 : MC := (yJ9_min_7cf53, cJ9_min_7cf53, 2, (some .int), 1, 0, 0)
theorem cb_J9_min_7cf53 : CB M_J9_min_7cf53 2 := ⟨(big_of 64 (by decide +kernel) (by decide +kernel)), (big_of 535 (by decide +kernel) (by decide +kernel)), by decide +kernel⟩
abbrev M_J9_abs_0f7a4 : MC := (yJ9_abs_0f7a4, cJ9_abs_0f7a4, 1, (some .int), 1, 0, 0)
theorem cb_J9_abs_0f7a4 : CB M_J9_abs_0f7a4 1 := ⟨(big_of 64 (by decide +kernel) (by decide +kernel)), (big_of 550 (by decide +kernel) (by decide +kernel)), by decide +kernel⟩
abbrev M_J6_numberOfTrailingZeros_0f7a4 : MC := (yJ6_numberOfTrailingZeros_0f7a4, cJ6_numberOfTrailingZeros_0f7a4, 2, (some .int), 1, 0, 0)
theorem cb_J6_numberOfTrailingZeros_0f7a4 : CB M_J6_numberOfTrailingZeros_0f7a4 1 := ⟨(big_of 66 (by decide +kernel) (by decide +kernel)), (big_of 631 (by decide +kernel) (by decide +kernel)), by decide +kernel⟩
abbrev M_J6_bitCount_0f7a4 : MC := (yJ6_bitCount_0f7a4, cJ6_bitCount_0f7a4, 1, (some .int), 1, 0, 0)
theorem cb_J6_bitCount_0f7a4 : CB M_J6_bitCount_0f7a4 1 := ⟨(big_of 66 (by decide +kernel) (by decide +kernel)), (big_of 643 (by decide +kernel) (by decide +kernel)), by decide +kernel⟩
theorem lk_X8_1 : Cond.methodLink RX8 1 Lib.objectInit ∈ big := (big_of 72 (by decide +kernel) (by decide +kernel))
theorem cv_X8_84 : CV RX8 84 M_X4_add 1 := ⟨cb_X4_add, (big_of 335 (by decide +kernel) (by decide +kernel)), (big_of 336 (by decide +kernel) (by decide +kernel)), (big_of 337 (by decide +kernel) (by decide +kernel))⟩
theorem cv_X8_88 : CV RX8 88 M_X8_layText 0 := ⟨cb_X8_layText, (big_of 339 (by decide +kernel) (by decide +kernel)), (big_of 341 (by decide +kernel) (by decide +kernel)), (big_of 0 (by decide +kernel) (by decide +kernel))⟩
theorem cv_X8_94 : CV RX8 94 M_X1_readWall 2 := ⟨cb_X1_readWall, (big_of 343 (by decide +kernel) (by decide +kernel)), (big_of 344 (by decide +kernel) (by decide +kernel)), (big_of 345 (by decide +kernel) (by decide +kernel))⟩
theorem cv_X8_98 : CV RX8 98 M_X7_hasBay 1 := ⟨cb_X7_hasBay, (big_of 464 (by decide +kernel) (by decide +kernel)), (big_of 382 (by decide +kernel) (by decide +kernel)), (big_of 383 (by decide +kernel) (by decide +kernel))⟩
theorem cv_X8_102 : CV RX8 102 M_X3_hasFallen 1 := ⟨cb_X3_hasFallen, (big_of 465 (by decide +kernel) (by decide +kernel)), (big_of 466 (by decide +kernel) (by decide +kernel)), (big_of 467 (by decide +kernel) (by decide +kernel))⟩
theorem cv_X8_112 : CV RX8 112 M_X8_standingBay 2 := ⟨cb_X8_standingBay, (big_of 469 (by decide +kernel) (by decide +kernel)), (big_of 471 (by decide +kernel) (by decide +kernel)), (big_of 4 (by decide +kernel) (by decide +kernel))⟩
theorem cv_X8_116 : CV RX8 116 M_X7_hasButtress 1 := ⟨cb_X7_hasButtress, (big_of 504 (by decide +kernel) (by decide +kernel)), (big_of 394 (by decide +kernel) (by decide +kernel)), (big_of 395 (by decide +kernel) (by decide +kernel))⟩
theorem cv_X8_134 : CV RX8 134 M_X3_isUp 1 := ⟨cb_X3_isUp, (big_of 505 (by decide +kernel) (by decide +kernel)), (big_of 482 (by decide +kernel) (by decide +kernel)), (big_of 483 (by decide +kernel) (by decide +kernel))⟩
theorem cv_X8_140 : CV RX8 140 M_X7_hasCarts 1 := ⟨cb_X7_hasCarts, (big_of 510 (by decide +kernel) (by decide +kernel)), (big_of 511 (by decide +kernel) (by decide +kernel)), (big_of 512 (by decide +kernel) (by decide +kernel))⟩
theorem cv_X8_143 : CV RX8 143 M_X5_remember 1 := ⟨cb_X5_remember, (big_of 522 (by decide +kernel) (by decide +kernel)), (big_of 523 (by decide +kernel) (by decide +kernel)), (big_of 524 (by decide +kernel) (by decide +kernel))⟩
theorem cv_X8_147 : CV RX8 147 M_X0_goBy 2 := ⟨cb_X0_goBy, (big_of 536 (by decide +kernel) (by decide +kernel)), (big_of 537 (by decide +kernel) (by decide +kernel)), (big_of 538 (by decide +kernel) (by decide +kernel))⟩
theorem cv_X8_151 : CV RX8 151 M_X3_canComeDown 2 := ⟨cb_X3_canComeDown, (big_of 570 (by decide +kernel) (by decide +kernel)), (big_of 571 (by decide +kernel) (by decide +kernel)), (big_of 572 (by decide +kernel) (by decide +kernel))⟩
theorem cv_X8_155 : CV RX8 155 M_X3_comeDown 1 := ⟨cb_X3_comeDown, (big_of 581 (by decide +kernel) (by decide +kernel)), (big_of 563 (by decide +kernel) (by decide +kernel)), (big_of 564 (by decide +kernel) (by decide +kernel))⟩
theorem cv_X8_159 : CV RX8 159 M_X3_canGoUp 2 := ⟨cb_X3_canGoUp, (big_of 586 (by decide +kernel) (by decide +kernel)), (big_of 587 (by decide +kernel) (by decide +kernel)), (big_of 588 (by decide +kernel) (by decide +kernel))⟩
theorem cv_X8_162 : CV RX8 162 M_X3_goUp 1 := ⟨cb_X3_goUp, (big_of 591 (by decide +kernel) (by decide +kernel)), (big_of 592 (by decide +kernel) (by decide +kernel)), (big_of 593 (by decide +kernel) (by decide +kernel))⟩
theorem cv_X8_165 : CV RX8 165 M_X3_upAt 2 := ⟨cb_X3_upAt, (big_of 595 (by decide +kernel) (by decide +kernel)), (big_of 596 (by decide +kernel) (by decide +kernel)), (big_of 597 (by decide +kernel) (by decide +kernel))⟩
theorem cv_X8_169 : CV RX8 169 M_X5_restore 1 := ⟨cb_X5_restore, (big_of 607 (by decide +kernel) (by decide +kernel)), (big_of 608 (by decide +kernel) (by decide +kernel)), (big_of 609 (by decide +kernel) (by decide +kernel))⟩
theorem cv_X8_176 : CV RX8 176 M_X6_startFrom 1 := ⟨cb_X6_startFrom, (big_of 615 (by decide +kernel) (by decide +kernel)), (big_of 616 (by decide +kernel) (by decide +kernel)), (big_of 617 (by decide +kernel) (by decide +kernel))⟩
theorem cv_X8_179 : CV RX8 179 M_X6_fallsBehind 2 := ⟨cb_X6_fallsBehind, (big_of 620 (by decide +kernel) (by decide +kernel)), (big_of 621 (by decide +kernel) (by decide +kernel)), (big_of 622 (by decide +kernel) (by decide +kernel))⟩
theorem cv_X8_182 : CV RX8 182 M_X6_lowestFell 0 := ⟨cb_X6_lowestFell, (big_of 625 (by decide +kernel) (by decide +kernel)), (big_of 626 (by decide +kernel) (by decide +kernel)), (big_of 627 (by decide +kernel) (by decide +kernel))⟩
theorem cv_X8_185 : CV RX8 185 M_X7_allButtresses 0 := ⟨cb_X7_allButtresses, (big_of 637 (by decide +kernel) (by decide +kernel)), (big_of 402 (by decide +kernel) (by decide +kernel)), (big_of 403 (by decide +kernel) (by decide +kernel))⟩
theorem cs_X8_188 : CS RX8 188 M_X8_isFewer 2 := ⟨cb_X8_isFewer, (big_of 638 (by decide +kernel) (by decide +kernel)), (big_of 639 (by decide +kernel) (by decide +kernel))⟩
theorem cv_X8_192 : CV RX8 192 M_X3_allAtStanding 2 := ⟨cb_X3_allAtStanding, (big_of 647 (by decide +kernel) (by decide +kernel)), (big_of 648 (by decide +kernel) (by decide +kernel)), (big_of 649 (by decide +kernel) (by decide +kernel))⟩
theorem cv_X8_195 : CV RX8 195 M_X8_wouldHold 1 := ⟨cb_X8_wouldHold, (big_of 652 (by decide +kernel) (by decide +kernel)), (big_of 654 (by decide +kernel) (by decide +kernel)), (big_of 7 (by decide +kernel) (by decide +kernel))⟩
theorem cs_X8_201 : CS RX8 201 M_X8_isPart 2 := ⟨cb_X8_isPart, (big_of 660 (by decide +kernel) (by decide +kernel)), (big_of 661 (by decide +kernel) (by decide +kernel))⟩
theorem cv_X8_204 : CV RX8 204 M_X8_wouldBreak 1 := ⟨cb_X8_wouldBreak, (big_of 663 (by decide +kernel) (by decide +kernel)), (big_of 665 (by decide +kernel) (by decide +kernel)), (big_of 8 (by decide +kernel) (by decide +kernel))⟩
theorem cv_X8_207 : CV RX8 207 M_X2_findFirst 3 := ⟨cb_X2_findFirst, (big_of 671 (by decide +kernel) (by decide +kernel)), (big_of 672 (by decide +kernel) (by decide +kernel)), (big_of 673 (by decide +kernel) (by decide +kernel))⟩
theorem cv_X8_211 : CV RX8 211 M_X2_hourOf 1 := ⟨cb_X2_hourOf, (big_of 695 (by decide +kernel) (by decide +kernel)), (big_of 696 (by decide +kernel) (by decide +kernel)), (big_of 697 (by decide +kernel) (by decide +kernel))⟩
theorem cv_X8_218 : CV RX8 218 M_X8_standsWithAt 2 := ⟨cb_X8_standsWithAt, (big_of 703 (by decide +kernel) (by decide +kernel)), (big_of 705 (by decide +kernel) (by decide +kernel)), (big_of 11 (by decide +kernel) (by decide +kernel))⟩
theorem cv_X8_221 : CV RX8 221 M_X7_takeFrom 1 := ⟨cb_X7_takeFrom, (big_of 716 (by decide +kernel) (by decide +kernel)), (big_of 717 (by decide +kernel) (by decide +kernel)), (big_of 718 (by decide +kernel) (by decide +kernel))⟩
theorem cv_X8_225 : CV RX8 225 M_X8_standsWithStrength 2 := ⟨cb_X8_standsWithStrength, (big_of 721 (by decide +kernel) (by decide +kernel)), (big_of 723 (by decide +kernel) (by decide +kernel)), (big_of 12 (by decide +kernel) (by decide +kernel))⟩
theorem cv_X8_228 : CV RX8 228 M_X7_allBays 0 := ⟨cb_X7_allBays, (big_of 729 (by decide +kernel) (by decide +kernel)), (big_of 730 (by decide +kernel) (by decide +kernel)), (big_of 731 (by decide +kernel) (by decide +kernel))⟩
theorem cv_X8_231 : CV RX8 231 M_X8_wouldBeHeld 1 := ⟨cb_X8_wouldBeHeld, (big_of 733 (by decide +kernel) (by decide +kernel)), (big_of 735 (by decide +kernel) (by decide +kernel)), (big_of 13 (by decide +kernel) (by decide +kernel))⟩
theorem cv_X8_234 : CV RX8 234 M_X6_givesWayBehind 3 := ⟨cb_X6_givesWayBehind, (big_of 741 (by decide +kernel) (by decide +kernel)), (big_of 742 (by decide +kernel) (by decide +kernel)), (big_of 743 (by decide +kernel) (by decide +kernel))⟩
theorem cs_X8_238 : CS RX8 238 M_J6_bitCount_0f7a4 1 := ⟨cb_J6_bitCount_0f7a4, (big_of 641 (by decide +kernel) (by decide +kernel)), (big_of 642 (by decide +kernel) (by decide +kernel))⟩
theorem cs_X8_243 : CS RX8 243 M_X8_power 2 := ⟨cb_X8_power, (big_of 752 (by decide +kernel) (by decide +kernel)), (big_of 753 (by decide +kernel) (by decide +kernel))⟩
theorem cv_X8_246 : CV RX8 246 M_X8_shirkWeight 2 := ⟨cb_X8_shirkWeight, (big_of 755 (by decide +kernel) (by decide +kernel)), (big_of 757 (by decide +kernel) (by decide +kernel)), (big_of 14 (by decide +kernel) (by decide +kernel))⟩
theorem cv_X8_249 : CV RX8 249 M_X8_standsWithShirkers 1 := ⟨cb_X8_standsWithShirkers, (big_of 759 (by decide +kernel) (by decide +kernel)), (big_of 761 (by decide +kernel) (by decide +kernel)), (big_of 15 (by decide +kernel) (by decide +kernel))⟩
theorem cs_X8_252 : CS RX8 252 M_X8_commonDivisor 2 := ⟨cb_X8_commonDivisor, (big_of 763 (by decide +kernel) (by decide +kernel)), (big_of 764 (by decide +kernel) (by decide +kernel))⟩
theorem cs_X8_255 : CS RX8 255 M_X8_draw 2 := ⟨cb_X8_draw, (big_of 770 (by decide +kernel) (by decide +kernel)), (big_of 771 (by decide +kernel) (by decide +kernel))⟩
theorem cv_X8_258 : CV RX8 258 M_X6_followDraw 2 := ⟨cb_X6_followDraw, (big_of 776 (by decide +kernel) (by decide +kernel)), (big_of 777 (by decide +kernel) (by decide +kernel)), (big_of 778 (by decide +kernel) (by decide +kernel))⟩
theorem cv_X8_271 : CV RX8 271 M_X3_takeFrom 1 := ⟨cb_X3_takeFrom, (big_of 788 (by decide +kernel) (by decide +kernel)), (big_of 527 (by decide +kernel) (by decide +kernel)), (big_of 528 (by decide +kernel) (by decide +kernel))⟩
theorem cv_X8_273 : CV RX8 273 M_X5_forget 0 := ⟨cb_X5_forget, (big_of 405 (by decide +kernel) (by decide +kernel)), (big_of 406 (by decide +kernel) (by decide +kernel)), (big_of 407 (by decide +kernel) (by decide +kernel))⟩
theorem cv_X8_279 : CV RX8 279 M_X0_heldBays 2 := ⟨cb_X0_heldBays, (big_of 473 (by decide +kernel) (by decide +kernel)), (big_of 474 (by decide +kernel) (by decide +kernel)), (big_of 475 (by decide +kernel) (by decide +kernel))⟩
theorem cv_X8_282 : CV RX8 282 M_X3_begin 1 := ⟨cb_X3_begin, (big_of 397 (by decide +kernel) (by decide +kernel)), (big_of 398 (by decide +kernel) (by decide +kernel)), (big_of 399 (by decide +kernel) (by decide +kernel))⟩
theorem cs_X8_291 : CS RX8 291 M_X8_hasBit 2 := ⟨cb_X8_hasBit, (big_of 497 (by decide +kernel) (by decide +kernel)), (big_of 498 (by decide +kernel) (by decide +kernel))⟩
theorem cv_X8_297 : CV RX8 297 M_X6_standsFor 1 := ⟨cb_X6_standsFor, (big_of 707 (by decide +kernel) (by decide +kernel)), (big_of 708 (by decide +kernel) (by decide +kernel)), (big_of 709 (by decide +kernel) (by decide +kernel))⟩
theorem lk_X9_1 : Cond.methodLink RX9 1 Lib.objectInit ∈ big := (big_of 802 (by decide +kernel) (by decide +kernel))
theorem cv_X9_34 : CV RX9 34 M_X9_begins 0 := ⟨cb_X9_begins, (big_of 803 (by decide +kernel) (by decide +kernel)), (big_of 805 (by decide +kernel) (by decide +kernel)), (big_of 16 (by decide +kernel) (by decide +kernel))⟩
theorem cv_X9_37 : CV RX9 37 M_X9_bayOf 2 := ⟨cb_X9_bayOf, (big_of 807 (by decide +kernel) (by decide +kernel)), (big_of 809 (by decide +kernel) (by decide +kernel)), (big_of 17 (by decide +kernel) (by decide +kernel))⟩
theorem cv_X9_41 : CV RX9 41 M_X9_buttressOf 4 := ⟨cb_X9_buttressOf, (big_of 811 (by decide +kernel) (by decide +kernel)), (big_of 813 (by decide +kernel) (by decide +kernel)), (big_of 18 (by decide +kernel) (by decide +kernel))⟩
theorem cv_X9_49 : CV RX9 49 M_X9_lays 0 := ⟨cb_X9_lays, (big_of 815 (by decide +kernel) (by decide +kernel)), (big_of 817 (by decide +kernel) (by decide +kernel)), (big_of 19 (by decide +kernel) (by decide +kernel))⟩
theorem cs_X9_52 : CS RX9 52 M_X9_in 3 := ⟨cb_X9_in, (big_of 819 (by decide +kernel) (by decide +kernel)), (big_of 820 (by decide +kernel) (by decide +kernel))⟩
theorem cv_X9_62 : CV RX9 62 M_X9_letterAt 1 := ⟨cb_X9_letterAt, (big_of 890 (by decide +kernel) (by decide +kernel)), (big_of 892 (by decide +kernel) (by decide +kernel)), (big_of 24 (by decide +kernel) (by decide +kernel))⟩
theorem cs_X9_66 : CS RX9 66 M_X9_isFigure 1 := ⟨cb_X9_isFigure, (big_of 894 (by decide +kernel) (by decide +kernel)), (big_of 895 (by decide +kernel) (by decide +kernel))⟩
theorem cv_X9_70 : CV RX9 70 M_X9_number 3 := ⟨cb_X9_number, (big_of 886 (by decide +kernel) (by decide +kernel)), (big_of 888 (by decide +kernel) (by decide +kernel)), (big_of 23 (by decide +kernel) (by decide +kernel))⟩
theorem cv_X9_74 : CV RX9 74 M_X9_readsBay 0 := ⟨cb_X9_readsBay, (big_of 882 (by decide +kernel) (by decide +kernel)), (big_of 884 (by decide +kernel) (by decide +kernel)), (big_of 22 (by decide +kernel) (by decide +kernel))⟩
theorem cv_X9_78 : CV RX9 78 M_X9_readsButtress 0 := ⟨cb_X9_readsButtress, (big_of 897 (by decide +kernel) (by decide +kernel)), (big_of 899 (by decide +kernel) (by decide +kernel)), (big_of 25 (by decide +kernel) (by decide +kernel))⟩
theorem cv_X9_81 : CV RX9 81 M_X9_readsItem 1 := ⟨cb_X9_readsItem, (big_of 878 (by decide +kernel) (by decide +kernel)), (big_of 880 (by decide +kernel) (by decide +kernel)), (big_of 21 (by decide +kernel) (by decide +kernel))⟩
theorem cv_X9_84 : CV RX9 84 M_X9_readsAll 0 := ⟨cb_X9_readsAll, (big_of 874 (by decide +kernel) (by decide +kernel)), (big_of 876 (by decide +kernel) (by decide +kernel)), (big_of 20 (by decide +kernel) (by decide +kernel))⟩
theorem cs_X9_94 : CS RX9 94 M_X9_has 2 := ⟨cb_X9_has, (big_of 917 (by decide +kernel) (by decide +kernel)), (big_of 918 (by decide +kernel) (by decide +kernel))⟩
theorem cv_X9_98 : CV RX9 98 M_X9_hasFallen 1 := ⟨cb_X9_hasFallen, (big_of 913 (by decide +kernel) (by decide +kernel)), (big_of 915 (by decide +kernel) (by decide +kernel)), (big_of 27 (by decide +kernel) (by decide +kernel))⟩
theorem cv_X9_101 : CV RX9 101 M_X9_isBay 1 := ⟨cb_X9_isBay, (big_of 909 (by decide +kernel) (by decide +kernel)), (big_of 911 (by decide +kernel) (by decide +kernel)), (big_of 26 (by decide +kernel) (by decide +kernel))⟩
theorem cv_X9_104 : CV RX9 104 M_X9_strengths 1 := ⟨cb_X9_strengths, (big_of 928 (by decide +kernel) (by decide +kernel)), (big_of 930 (by decide +kernel) (by decide +kernel)), (big_of 30 (by decide +kernel) (by decide +kernel))⟩
theorem cv_X9_107 : CV RX9 107 M_X9_load 1 := ⟨cb_X9_load, (big_of 920 (by decide +kernel) (by decide +kernel)), (big_of 922 (by decide +kernel) (by decide +kernel)), (big_of 28 (by decide +kernel) (by decide +kernel))⟩
theorem cv_X9_110 : CV RX9 110 M_X9_helps 1 := ⟨cb_X9_helps, (big_of 932 (by decide +kernel) (by decide +kernel)), (big_of 934 (by decide +kernel) (by decide +kernel)), (big_of 31 (by decide +kernel) (by decide +kernel))⟩
theorem cv_X9_113 : CV RX9 113 M_X9_props 1 := ⟨cb_X9_props, (big_of 924 (by decide +kernel) (by decide +kernel)), (big_of 926 (by decide +kernel) (by decide +kernel)), (big_of 29 (by decide +kernel) (by decide +kernel))⟩
theorem cv_X9_116 : CV RX9 116 M_X9_isHeld 1 := ⟨cb_X9_isHeld, (big_of 936 (by decide +kernel) (by decide +kernel)), (big_of 938 (by decide +kernel) (by decide +kernel)), (big_of 32 (by decide +kernel) (by decide +kernel))⟩
theorem cv_X9_119 : CV RX9 119 M_X9_isButtress 1 := ⟨cb_X9_isButtress, (big_of 944 (by decide +kernel) (by decide +kernel)), (big_of 946 (by decide +kernel) (by decide +kernel)), (big_of 33 (by decide +kernel) (by decide +kernel))⟩
theorem cv_X9_122 : CV RX9 122 M_X9_areCarts 1 := ⟨cb_X9_areCarts, (big_of 952 (by decide +kernel) (by decide +kernel)), (big_of 954 (by decide +kernel) (by decide +kernel)), (big_of 34 (by decide +kernel) (by decide +kernel))⟩
theorem cv_X9_125 : CV RX9 125 M_X9_heldNow 0 := ⟨cb_X9_heldNow, (big_of 968 (by decide +kernel) (by decide +kernel)), (big_of 970 (by decide +kernel) (by decide +kernel)), (big_of 37 (by decide +kernel) (by decide +kernel))⟩
theorem cv_X9_128 : CV RX9 128 M_X9_isAlone 1 := ⟨cb_X9_isAlone, (big_of 972 (by decide +kernel) (by decide +kernel)), (big_of 974 (by decide +kernel) (by decide +kernel)), (big_of 38 (by decide +kernel) (by decide +kernel))⟩
theorem cv_X9_131 : CV RX9 131 M_X9_keeps 0 := ⟨cb_X9_keeps, (big_of 960 (by decide +kernel) (by decide +kernel)), (big_of 962 (by decide +kernel) (by decide +kernel)), (big_of 35 (by decide +kernel) (by decide +kernel))⟩
theorem cv_X9_134 : CV RX9 134 M_X9_passes 0 := ⟨cb_X9_passes, (big_of 964 (by decide +kernel) (by decide +kernel)), (big_of 966 (by decide +kernel) (by decide +kernel)), (big_of 36 (by decide +kernel) (by decide +kernel))⟩
theorem cv_X9_137 : CV RX9 137 M_X9_isBarred 1 := ⟨cb_X9_isBarred, (big_of 984 (by decide +kernel) (by decide +kernel)), (big_of 986 (by decide +kernel) (by decide +kernel)), (big_of 40 (by decide +kernel) (by decide +kernel))⟩
theorem cv_X9_140 : CV RX9 140 M_X9_mayDown 1 := ⟨cb_X9_mayDown, (big_of 980 (by decide +kernel) (by decide +kernel)), (big_of 982 (by decide +kernel) (by decide +kernel)), (big_of 39 (by decide +kernel) (by decide +kernel))⟩
theorem cv_X9_143 : CV RX9 143 M_X9_mayUp 1 := ⟨cb_X9_mayUp, (big_of 992 (by decide +kernel) (by decide +kernel)), (big_of 994 (by decide +kernel) (by decide +kernel)), (big_of 41 (by decide +kernel) (by decide +kernel))⟩
theorem cv_X9_146 : CV RX9 146 M_X9_holds 0 := ⟨cb_X9_holds, (big_of 1008 (by decide +kernel) (by decide +kernel)), (big_of 1010 (by decide +kernel) (by decide +kernel)), (big_of 42 (by decide +kernel) (by decide +kernel))⟩
theorem cv_X9_149 : CV RX9 149 M_X9_falls 1 := ⟨cb_X9_falls, (big_of 1012 (by decide +kernel) (by decide +kernel)), (big_of 1014 (by decide +kernel) (by decide +kernel)), (big_of 43 (by decide +kernel) (by decide +kernel))⟩
theorem cv_X9_152 : CV RX9 152 M_X9_lets 0 := ⟨cb_X9_lets, (big_of 1016 (by decide +kernel) (by decide +kernel)), (big_of 1018 (by decide +kernel) (by decide +kernel)), (big_of 44 (by decide +kernel) (by decide +kernel))⟩
theorem cs_X9_155 : CS RX9 155 M_X9_lowest 1 := ⟨cb_X9_lowest, (big_of 1020 (by decide +kernel) (by decide +kernel)), (big_of 1021 (by decide +kernel) (by decide +kernel))⟩
theorem cv_X9_158 : CV RX9 158 M_X9_useful 0 := ⟨cb_X9_useful, (big_of 1027 (by decide +kernel) (by decide +kernel)), (big_of 1029 (by decide +kernel) (by decide +kernel)), (big_of 45 (by decide +kernel) (by decide +kernel))⟩
theorem cs_X9_161 : CS RX9 161 M_X9_ones 1 := ⟨cb_X9_ones, (big_of 1031 (by decide +kernel) (by decide +kernel)), (big_of 1032 (by decide +kernel) (by decide +kernel))⟩
theorem cs_X9_164 : CS RX9 164 M_X9_hourOf 4 := ⟨cb_X9_hourOf, (big_of 1046 (by decide +kernel) (by decide +kernel)), (big_of 1047 (by decide +kernel) (by decide +kernel))⟩
theorem cv_X9_168 : CV RX9 168 M_X9_rises 1 := ⟨cb_X9_rises, (big_of 1049 (by decide +kernel) (by decide +kernel)), (big_of 1051 (by decide +kernel) (by decide +kernel)), (big_of 47 (by decide +kernel) (by decide +kernel))⟩
theorem cv_X9_172 : CV RX9 172 M_X9_isRoster 2 := ⟨cb_X9_isRoster, (big_of 1042 (by decide +kernel) (by decide +kernel)), (big_of 1044 (by decide +kernel) (by decide +kernel)), (big_of 46 (by decide +kernel) (by decide +kernel))⟩
theorem cv_X9_181 : CV RX9 181 M_X9_turn 1 := ⟨cb_X9_turn, (big_of 1080 (by decide +kernel) (by decide +kernel)), (big_of 1082 (by decide +kernel) (by decide +kernel)), (big_of 48 (by decide +kernel) (by decide +kernel))⟩
theorem lk_X0_3 : Cond.methodLink RX0 3 Lib.objectInit ∈ big := (big_of 110 (by decide +kernel) (by decide +kernel))
theorem cv_X0_21 : CV RX0 21 M_X0_weighRaised 2 := ⟨cb_X0_weighRaised, (big_of 477 (by decide +kernel) (by decide +kernel)), (big_of 479 (by decide +kernel) (by decide +kernel)), (big_of 5 (by decide +kernel) (by decide +kernel))⟩
theorem cs_X0_34 : CS RX0 34 M_X0_thrown 3 := ⟨cb_X0_thrown, (big_of 486 (by decide +kernel) (by decide +kernel)), (big_of 487 (by decide +kernel) (by decide +kernel))⟩
theorem cv_X0_38 : CV RX0 38 M_X0_lent 3 := ⟨cb_X0_lent, (big_of 490 (by decide +kernel) (by decide +kernel)), (big_of 492 (by decide +kernel) (by decide +kernel)), (big_of 6 (by decide +kernel) (by decide +kernel))⟩
theorem cv_X0_52 : CV RX0 52 M_X3_isUp 1 := ⟨cb_X3_isUp, (big_of 481 (by decide +kernel) (by decide +kernel)), (big_of 482 (by decide +kernel) (by decide +kernel)), (big_of 483 (by decide +kernel) (by decide +kernel))⟩
theorem cv_X0_56 : CV RX0 56 M_X7_hasBay 1 := ⟨cb_X7_hasBay, (big_of 485 (by decide +kernel) (by decide +kernel)), (big_of 382 (by decide +kernel) (by decide +kernel)), (big_of 383 (by decide +kernel) (by decide +kernel))⟩
theorem cv_X0_62 : CV RX0 62 M_X3_hasFallen 1 := ⟨cb_X3_hasFallen, (big_of 489 (by decide +kernel) (by decide +kernel)), (big_of 466 (by decide +kernel) (by decide +kernel)), (big_of 467 (by decide +kernel) (by decide +kernel))⟩
theorem lk_X0_65 : Cond.methodLink RX0 65 Lib.Math.max.name ∈ big := (big_of 494 (by decide +kernel) (by decide +kernel))
theorem cv_X0_71 : CV RX0 71 M_X0_heldBays 2 := ⟨cb_X0_heldBays, (big_of 540 (by decide +kernel) (by decide +kernel)), (big_of 474 (by decide +kernel) (by decide +kernel)), (big_of 475 (by decide +kernel) (by decide +kernel))⟩
theorem cv_X0_78 : CV RX0 78 M_X7_hasCarts 1 := ⟨cb_X7_hasCarts, (big_of 541 (by decide +kernel) (by decide +kernel)), (big_of 511 (by decide +kernel) (by decide +kernel)), (big_of 512 (by decide +kernel) (by decide +kernel))⟩
theorem cs_X0_81 : CS RX0 81 M_X0_tiring 3 := ⟨cb_X0_tiring, (big_of 542 (by decide +kernel) (by decide +kernel)), (big_of 543 (by decide +kernel) (by decide +kernel))⟩
theorem cs_X0_84 : CS RX0 84 M_X0_resting 2 := ⟨cb_X0_resting, (big_of 551 (by decide +kernel) (by decide +kernel)), (big_of 552 (by decide +kernel) (by decide +kernel))⟩
theorem lk_X0_91 : Cond.methodLink RX0 91 Lib.Math.min.name ∈ big := (big_of 554 (by decide +kernel) (by decide +kernel))
theorem cs_X0_94 : CS RX0 94 M_X0_ageBays 3 := ⟨cb_X0_ageBays, (big_of 555 (by decide +kernel) (by decide +kernel)), (big_of 556 (by decide +kernel) (by decide +kernel))⟩
theorem cs_X0_97 : CS RX0 97 M_X0_leaveTired 3 := ⟨cb_X0_leaveTired, (big_of 559 (by decide +kernel) (by decide +kernel)), (big_of 560 (by decide +kernel) (by decide +kernel))⟩
theorem cs_X0_104 : CS RX0 104 M_X0_isAlone 3 := ⟨cb_X0_isAlone, (big_of 545 (by decide +kernel) (by decide +kernel)), (big_of 546 (by decide +kernel) (by decide +kernel))⟩
theorem lk_X0_108 : Cond.methodLink RX0 108 Lib.Math.abs.name ∈ big := (big_of 548 (by decide +kernel) (by decide +kernel))
theorem cs_X0_115 : CSN RX0 115 M_X8_hasBit 2 := ⟨cb_X8_hasBit, by decide +kernel, (big_of 498 (by decide +kernel) (by decide +kernel))⟩
theorem cv_X0_125 : CV RX0 125 M_X3_comeDown 1 := ⟨cb_X3_comeDown, (big_of 562 (by decide +kernel) (by decide +kernel)), (big_of 563 (by decide +kernel) (by decide +kernel)), (big_of 564 (by decide +kernel) (by decide +kernel))⟩
theorem lk_X1_3 : Cond.methodLink RX1 3 Lib.objectInit ∈ big := (big_of 96 (by decide +kernel) (by decide +kernel))
theorem cv_X1_15 : CV RX1 15 M_X7_clear 0 := ⟨cb_X7_clear, (big_of 347 (by decide +kernel) (by decide +kernel)), (big_of 348 (by decide +kernel) (by decide +kernel)), (big_of 349 (by decide +kernel) (by decide +kernel))⟩
theorem cv_X1_29 : CV RX1 29 M_X1_readItem 2 := ⟨cb_X1_readItem, (big_of 351 (by decide +kernel) (by decide +kernel)), (big_of 353 (by decide +kernel) (by decide +kernel)), (big_of 1 (by decide +kernel) (by decide +kernel))⟩
theorem cv_X1_33 : CV RX1 33 M_X4_letterAt 1 := ⟨cb_X4_letterAt, (big_of 355 (by decide +kernel) (by decide +kernel)), (big_of 356 (by decide +kernel) (by decide +kernel)), (big_of 357 (by decide +kernel) (by decide +kernel))⟩
theorem cs_X1_37 : CS RX1 37 M_X1_numbersBehind 1 := ⟨cb_X1_numbersBehind, (big_of 359 (by decide +kernel) (by decide +kernel)), (big_of 360 (by decide +kernel) (by decide +kernel))⟩
theorem cv_X1_41 : CV RX1 41 M_X1_readNumber 2 := ⟨cb_X1_readNumber, (big_of 362 (by decide +kernel) (by decide +kernel)), (big_of 364 (by decide +kernel) (by decide +kernel)), (big_of 2 (by decide +kernel) (by decide +kernel))⟩
theorem cv_X1_45 : CV RX1 45 M_X1_takeItem 2 := ⟨cb_X1_takeItem, (big_of 369 (by decide +kernel) (by decide +kernel)), (big_of 371 (by decide +kernel) (by decide +kernel)), (big_of 3 (by decide +kernel) (by decide +kernel))⟩
theorem cs_X1_49 : CS RX1 49 M_X1_figure 1 := ⟨cb_X1_figure, (big_of 366 (by decide +kernel) (by decide +kernel)), (big_of 367 (by decide +kernel) (by decide +kernel))⟩
theorem cv_X1_52 : CV RX1 52 M_X7_addBay 2 := ⟨cb_X7_addBay, (big_of 373 (by decide +kernel) (by decide +kernel)), (big_of 374 (by decide +kernel) (by decide +kernel)), (big_of 375 (by decide +kernel) (by decide +kernel))⟩
theorem cv_X1_56 : CV RX1 56 M_X7_addButtress 4 := ⟨cb_X7_addButtress, (big_of 377 (by decide +kernel) (by decide +kernel)), (big_of 378 (by decide +kernel) (by decide +kernel)), (big_of 379 (by decide +kernel) (by decide +kernel))⟩
theorem cv_X1_60 : CV RX1 60 M_X7_addCarts 1 := ⟨cb_X7_addCarts, (big_of 385 (by decide +kernel) (by decide +kernel)), (big_of 386 (by decide +kernel) (by decide +kernel)), (big_of 387 (by decide +kernel) (by decide +kernel))⟩
theorem cv_X1_64 : CV RX1 64 M_X7_addDown 1 := ⟨cb_X7_addDown, (big_of 389 (by decide +kernel) (by decide +kernel)), (big_of 390 (by decide +kernel) (by decide +kernel)), (big_of 391 (by decide +kernel) (by decide +kernel))⟩
theorem lk_X2_5 : Cond.methodLink RX2 5 Lib.objectInit ∈ big := (big_of 185 (by decide +kernel) (by decide +kernel))
theorem lk_X2_25 : Cond.methodLink RX2 25 Lib.Math.min.name ∈ big := (big_of 675 (by decide +kernel) (by decide +kernel))
theorem cv_X2_39 : CV RX2 39 M_X2_isHopeless 2 := ⟨cb_X2_isHopeless, (big_of 677 (by decide +kernel) (by decide +kernel)), (big_of 679 (by decide +kernel) (by decide +kernel)), (big_of 9 (by decide +kernel) (by decide +kernel))⟩
theorem cv_X2_43 : CV RX2 43 M_X3_takeFrom 1 := ⟨cb_X3_takeFrom, (big_of 681 (by decide +kernel) (by decide +kernel)), (big_of 527 (by decide +kernel) (by decide +kernel)), (big_of 528 (by decide +kernel) (by decide +kernel))⟩
theorem cv_X2_50 : CV RX2 50 (M_X2_tryHour 0) 4 := ⟨cb_X2_tryHour, (big_of 683 (by decide +kernel) (by decide +kernel)), (big_of 685 (by decide +kernel) (by decide +kernel)), (big_of 10 (by decide +kernel) (by decide +kernel))⟩
theorem cv_X2_54 : CV RX2 54 M_X0_goBy 2 := ⟨cb_X0_goBy, (big_of 682 (by decide +kernel) (by decide +kernel)), (big_of 537 (by decide +kernel) (by decide +kernel)), (big_of 538 (by decide +kernel) (by decide +kernel))⟩
theorem cs_X2_58 : CS RX2 58 M_X2_figurePlace 1 := ⟨cb_X2_figurePlace, (big_of 692 (by decide +kernel) (by decide +kernel)), (big_of 693 (by decide +kernel) (by decide +kernel))⟩
theorem cs_X2_62 : CSN RX2 62 M_X8_isPart 2 := ⟨cb_X8_isPart, by decide +kernel, (big_of 661 (by decide +kernel) (by decide +kernel))⟩
theorem cs_X2_66 : CS RX2 66 M_X2_oneHourMore 1 := ⟨cb_X2_oneHourMore, (big_of 688 (by decide +kernel) (by decide +kernel)), (big_of 689 (by decide +kernel) (by decide +kernel))⟩
theorem cs_X2_69 : CSN RX2 69 M_X8_hasBit 2 := ⟨cb_X8_hasBit, by decide +kernel, (big_of 498 (by decide +kernel) (by decide +kernel))⟩
theorem lk_X3_3 : Cond.methodLink RX3 3 Lib.objectInit ∈ big := (big_of 134 (by decide +kernel) (by decide +kernel))
theorem cv_X3_25 : CV RX3 25 M_X7_allButtresses 0 := ⟨cb_X7_allButtresses, (big_of 401 (by decide +kernel) (by decide +kernel)), (big_of 402 (by decide +kernel) (by decide +kernel)), (big_of 403 (by decide +kernel) (by decide +kernel))⟩
theorem lk_X3_43 : Cond.methodLink RX3 43 arraycopyName ∈ big := (big_of 530 (by decide +kernel) (by decide +kernel))
theorem cv_X3_49 : CV RX3 49 M_X7_hasButtress 1 := ⟨cb_X7_hasButtress, (big_of 574 (by decide +kernel) (by decide +kernel)), (big_of 394 (by decide +kernel) (by decide +kernel)), (big_of 395 (by decide +kernel) (by decide +kernel))⟩
theorem cv_X3_53 : CV RX3 53 M_X3_isUp 1 := ⟨cb_X3_isUp, (big_of 575 (by decide +kernel) (by decide +kernel)), (big_of 482 (by decide +kernel) (by decide +kernel)), (big_of 483 (by decide +kernel) (by decide +kernel))⟩
theorem cv_X3_56 : CV RX3 56 M_X3_isScared 2 := ⟨cb_X3_isScared, (big_of 576 (by decide +kernel) (by decide +kernel)), (big_of 577 (by decide +kernel) (by decide +kernel)), (big_of 578 (by decide +kernel) (by decide +kernel))⟩
theorem cv_X3_63 : CV RX3 63 M_X3_hasFallen 1 := ⟨cb_X3_hasFallen, (big_of 590 (by decide +kernel) (by decide +kernel)), (big_of 466 (by decide +kernel) (by decide +kernel)), (big_of 467 (by decide +kernel) (by decide +kernel))⟩
theorem cv_X3_69 : CV RX3 69 M_X7_hasCarts 1 := ⟨cb_X7_hasCarts, (big_of 580 (by decide +kernel) (by decide +kernel)), (big_of 511 (by decide +kernel) (by decide +kernel)), (big_of 512 (by decide +kernel) (by decide +kernel))⟩
theorem cs_X3_75 : CSN RX3 75 M_X8_hasBit 2 := ⟨cb_X8_hasBit, by decide +kernel, (big_of 498 (by decide +kernel) (by decide +kernel))⟩
theorem lk_X4_3 : Cond.methodLink RX4 3 Lib.objectInit ∈ big := (big_of 80 (by decide +kernel) (by decide +kernel))
theorem lk_X5_3 : Cond.methodLink RX5 3 Lib.objectInit ∈ big := (big_of 211 (by decide +kernel) (by decide +kernel))
theorem cv_X5_22 : CV RX5 22 M_X3_takeFrom 1 := ⟨cb_X3_takeFrom, (big_of 526 (by decide +kernel) (by decide +kernel)), (big_of 527 (by decide +kernel) (by decide +kernel)), (big_of 528 (by decide +kernel) (by decide +kernel))⟩
theorem lk_X5_29 : Cond.methodLink RX5 29 Lib.Math.min.name ∈ big := (big_of 533 (by decide +kernel) (by decide +kernel))
theorem lk_X6_3 : Cond.methodLink RX6 3 Lib.objectInit ∈ big := (big_of 128 (by decide +kernel) (by decide +kernel))
theorem cv_X6_25 : CV RX6 25 M_X3_takeFrom 1 := ⟨cb_X3_takeFrom, (big_of 619 (by decide +kernel) (by decide +kernel)), (big_of 527 (by decide +kernel) (by decide +kernel)), (big_of 528 (by decide +kernel) (by decide +kernel))⟩
theorem cv_X6_33 : CV RX6 33 M_X0_goBy 2 := ⟨cb_X0_goBy, (big_of 624 (by decide +kernel) (by decide +kernel)), (big_of 537 (by decide +kernel) (by decide +kernel)), (big_of 538 (by decide +kernel) (by decide +kernel))⟩
theorem cs_X6_37 : CS RX6 37 M_J6_numberOfTrailingZeros_0f7a4 1 := ⟨cb_J6_numberOfTrailingZeros_0f7a4, (big_of 629 (by decide +kernel) (by decide +kernel)), (big_of 630 (by decide +kernel) (by decide +kernel))⟩
theorem cv_X6_43 : CV RX6 43 M_X6_fallsBehind 2 := ⟨cb_X6_fallsBehind, (big_of 711 (by decide +kernel) (by decide +kernel)), (big_of 621 (by decide +kernel) (by decide +kernel)), (big_of 622 (by decide +kernel) (by decide +kernel))⟩
theorem cv_X6_47 : CV RX6 47 M_X3_isUp 1 := ⟨cb_X3_isUp, (big_of 745 (by decide +kernel) (by decide +kernel)), (big_of 482 (by decide +kernel) (by decide +kernel)), (big_of 483 (by decide +kernel) (by decide +kernel))⟩
theorem cv_X6_51 : CV RX6 51 M_X7_hasButtress 1 := ⟨cb_X7_hasButtress, (big_of 746 (by decide +kernel) (by decide +kernel)), (big_of 394 (by decide +kernel) (by decide +kernel)), (big_of 395 (by decide +kernel) (by decide +kernel))⟩
theorem cv_X6_60 : CV RX6 60 M_X3_hasFallen 1 := ⟨cb_X3_hasFallen, (big_of 747 (by decide +kernel) (by decide +kernel)), (big_of 466 (by decide +kernel) (by decide +kernel)), (big_of 467 (by decide +kernel) (by decide +kernel))⟩
theorem cv_X6_69 : CV RX6 69 M_X3_canComeDown 2 := ⟨cb_X3_canComeDown, (big_of 780 (by decide +kernel) (by decide +kernel)), (big_of 571 (by decide +kernel) (by decide +kernel)), (big_of 572 (by decide +kernel) (by decide +kernel))⟩
theorem cv_X6_73 : CV RX6 73 M_X3_comeDown 1 := ⟨cb_X3_comeDown, (big_of 781 (by decide +kernel) (by decide +kernel)), (big_of 563 (by decide +kernel) (by decide +kernel)), (big_of 564 (by decide +kernel) (by decide +kernel))⟩
theorem cv_X6_77 : CV RX6 77 M_X3_canGoUp 2 := ⟨cb_X3_canGoUp, (big_of 782 (by decide +kernel) (by decide +kernel)), (big_of 587 (by decide +kernel) (by decide +kernel)), (big_of 588 (by decide +kernel) (by decide +kernel))⟩
theorem cv_X6_80 : CV RX6 80 M_X3_goUp 1 := ⟨cb_X3_goUp, (big_of 783 (by decide +kernel) (by decide +kernel)), (big_of 592 (by decide +kernel) (by decide +kernel)), (big_of 593 (by decide +kernel) (by decide +kernel))⟩
theorem lk_X7_3 : Cond.methodLink RX7 3 Lib.objectInit ∈ big := (big_of 230 (by decide +kernel) (by decide +kernel))
theorem lk_X7_46 : Cond.methodLink RX7 46 arraycopyName ∈ big := (big_of 720 (by decide +kernel) (by decide +kernel))
theorem cv_X7_52 : CV RX7 52 M_X7_hasBay 1 := ⟨cb_X7_hasBay, (big_of 381 (by decide +kernel) (by decide +kernel)), (big_of 382 (by decide +kernel) (by decide +kernel)), (big_of 383 (by decide +kernel) (by decide +kernel))⟩
theorem cv_X7_56 : CV RX7 56 M_X7_hasButtress 1 := ⟨cb_X7_hasButtress, (big_of 393 (by decide +kernel) (by decide +kernel)), (big_of 394 (by decide +kernel) (by decide +kernel)), (big_of 395 (by decide +kernel) (by decide +kernel))⟩
theorem cs_X7_59 : CS RX7 59 M_J9_floorMod_7cf53 2 := ⟨cb_J9_floorMod_7cf53, (big_of 514 (by decide +kernel) (by decide +kernel)), (big_of 515 (by decide +kernel) (by decide +kernel))⟩
theorem cs_X7_65 : CSN RX7 65 M_X8_hasBit 2 := ⟨cb_X8_hasBit, by decide +kernel, (big_of 498 (by decide +kernel) (by decide +kernel))⟩
theorem cv_L_13 : CV RL 13 M_X8_write 1 := ⟨cb_X8_write, (big_of 444 (by decide +kernel) (by decide +kernel)), (big_of 445 (by decide +kernel) (by decide +kernel)), (big_of 446 (by decide +kernel) (by decide +kernel))⟩
theorem cv_L_17 : CV RL 17 M_X9_write 1 := ⟨cb_X9_write, (big_of 862 (by decide +kernel) (by decide +kernel)), (big_of 863 (by decide +kernel) (by decide +kernel)), (big_of 864 (by decide +kernel) (by decide +kernel))⟩
theorem cv_L_18 : CV RL 18 M_X8_wipe 0 := ⟨cb_X8_wipe, (big_of 448 (by decide +kernel) (by decide +kernel)), (big_of 449 (by decide +kernel) (by decide +kernel)), (big_of 450 (by decide +kernel) (by decide +kernel))⟩
theorem cv_L_22 : CV RL 22 M_X9_wipe 0 := ⟨cb_X9_wipe, (big_of 866 (by decide +kernel) (by decide +kernel)), (big_of 867 (by decide +kernel) (by decide +kernel)), (big_of 868 (by decide +kernel) (by decide +kernel))⟩
theorem cv_L_23 : CV RL 23 M_X8_fault 0 := ⟨cb_X8_fault, (big_of 452 (by decide +kernel) (by decide +kernel)), (big_of 453 (by decide +kernel) (by decide +kernel)), (big_of 454 (by decide +kernel) (by decide +kernel))⟩
theorem cv_L_26 : CV RL 26 M_X9_fault 0 := ⟨cb_X9_fault, (big_of 870 (by decide +kernel) (by decide +kernel)), (big_of 871 (by decide +kernel) (by decide +kernel)), (big_of 872 (by decide +kernel) (by decide +kernel))⟩
theorem cv_L_27 : CV RL 27 M_X8_lay 0 := ⟨cb_X8_lay, (big_of 456 (by decide +kernel) (by decide +kernel)), (big_of 457 (by decide +kernel) (by decide +kernel)), (big_of 458 (by decide +kernel) (by decide +kernel))⟩
theorem cv_L_30 : CV RL 30 M_X9_lay 0 := ⟨cb_X9_lay, (big_of 901 (by decide +kernel) (by decide +kernel)), (big_of 902 (by decide +kernel) (by decide +kernel)), (big_of 903 (by decide +kernel) (by decide +kernel))⟩
theorem cv_L_31 : CV RL 31 M_X8_bay 2 := ⟨cb_X8_bay, (big_of 460 (by decide +kernel) (by decide +kernel)), (big_of 461 (by decide +kernel) (by decide +kernel)), (big_of 462 (by decide +kernel) (by decide +kernel))⟩
theorem cv_L_35 : CV RL 35 M_X9_bay 2 := ⟨cb_X9_bay, (big_of 905 (by decide +kernel) (by decide +kernel)), (big_of 906 (by decide +kernel) (by decide +kernel)), (big_of 907 (by decide +kernel) (by decide +kernel))⟩
theorem cv_L_36 : CV RL 36 M_X8_buttress 2 := ⟨cb_X8_buttress, (big_of 500 (by decide +kernel) (by decide +kernel)), (big_of 501 (by decide +kernel) (by decide +kernel)), (big_of 502 (by decide +kernel) (by decide +kernel))⟩
theorem cv_L_39 : CV RL 39 M_X9_buttress 2 := ⟨cb_X9_buttress, (big_of 940 (by decide +kernel) (by decide +kernel)), (big_of 941 (by decide +kernel) (by decide +kernel)), (big_of 942 (by decide +kernel) (by decide +kernel))⟩
theorem cv_L_40 : CV RL 40 M_X8_carts 1 := ⟨cb_X8_carts, (big_of 506 (by decide +kernel) (by decide +kernel)), (big_of 507 (by decide +kernel) (by decide +kernel)), (big_of 508 (by decide +kernel) (by decide +kernel))⟩
theorem cv_L_43 : CV RL 43 M_X9_carts 1 := ⟨cb_X9_carts, (big_of 948 (by decide +kernel) (by decide +kernel)), (big_of 949 (by decide +kernel) (by decide +kernel)), (big_of 950 (by decide +kernel) (by decide +kernel))⟩
theorem cv_L_44 : CV RL 44 M_X8_pass 1 := ⟨cb_X8_pass, (big_of 518 (by decide +kernel) (by decide +kernel)), (big_of 519 (by decide +kernel) (by decide +kernel)), (big_of 520 (by decide +kernel) (by decide +kernel))⟩
theorem cv_L_47 : CV RL 47 M_X9_pass 1 := ⟨cb_X9_pass, (big_of 956 (by decide +kernel) (by decide +kernel)), (big_of 957 (by decide +kernel) (by decide +kernel)), (big_of 958 (by decide +kernel) (by decide +kernel))⟩
theorem cv_L_48 : CV RL 48 M_X8_down 1 := ⟨cb_X8_down, (big_of 566 (by decide +kernel) (by decide +kernel)), (big_of 567 (by decide +kernel) (by decide +kernel)), (big_of 568 (by decide +kernel) (by decide +kernel))⟩
theorem cv_L_51 : CV RL 51 M_X9_down 1 := ⟨cb_X9_down, (big_of 976 (by decide +kernel) (by decide +kernel)), (big_of 977 (by decide +kernel) (by decide +kernel)), (big_of 978 (by decide +kernel) (by decide +kernel))⟩
theorem cv_L_52 : CV RL 52 M_X8_up 1 := ⟨cb_X8_up, (big_of 582 (by decide +kernel) (by decide +kernel)), (big_of 583 (by decide +kernel) (by decide +kernel)), (big_of 584 (by decide +kernel) (by decide +kernel))⟩
theorem cv_L_55 : CV RL 55 M_X9_up 1 := ⟨cb_X9_up, (big_of 988 (by decide +kernel) (by decide +kernel)), (big_of 989 (by decide +kernel) (by decide +kernel)), (big_of 990 (by decide +kernel) (by decide +kernel))⟩
theorem cv_L_56 : CV RL 56 M_X8_send 2 := ⟨cb_X8_send, (big_of 599 (by decide +kernel) (by decide +kernel)), (big_of 600 (by decide +kernel) (by decide +kernel)), (big_of 601 (by decide +kernel) (by decide +kernel))⟩
theorem cv_L_59 : CV RL 59 M_X9_send 2 := ⟨cb_X9_send, (big_of 996 (by decide +kernel) (by decide +kernel)), (big_of 997 (by decide +kernel) (by decide +kernel)), (big_of 998 (by decide +kernel) (by decide +kernel))⟩
theorem cv_L_60 : CV RL 60 M_X8_undo 0 := ⟨cb_X8_undo, (big_of 603 (by decide +kernel) (by decide +kernel)), (big_of 604 (by decide +kernel) (by decide +kernel)), (big_of 605 (by decide +kernel) (by decide +kernel))⟩
theorem cv_L_63 : CV RL 63 M_X9_undo 0 := ⟨cb_X9_undo, (big_of 1000 (by decide +kernel) (by decide +kernel)), (big_of 1001 (by decide +kernel) (by decide +kernel)), (big_of 1002 (by decide +kernel) (by decide +kernel))⟩
theorem cv_L_64 : CV RL 64 M_X8_stands 1 := ⟨cb_X8_stands, (big_of 611 (by decide +kernel) (by decide +kernel)), (big_of 612 (by decide +kernel) (by decide +kernel)), (big_of 613 (by decide +kernel) (by decide +kernel))⟩
theorem cv_L_67 : CV RL 67 M_X9_stands 1 := ⟨cb_X9_stands, (big_of 1004 (by decide +kernel) (by decide +kernel)), (big_of 1005 (by decide +kernel) (by decide +kernel)), (big_of 1006 (by decide +kernel) (by decide +kernel))⟩
theorem cv_L_68 : CV RL 68 M_X8_needed 0 := ⟨cb_X8_needed, (big_of 633 (by decide +kernel) (by decide +kernel)), (big_of 634 (by decide +kernel) (by decide +kernel)), (big_of 635 (by decide +kernel) (by decide +kernel))⟩
theorem cv_L_71 : CV RL 71 M_X9_needed 0 := ⟨cb_X9_needed, (big_of 1023 (by decide +kernel) (by decide +kernel)), (big_of 1024 (by decide +kernel) (by decide +kernel)), (big_of 1025 (by decide +kernel) (by decide +kernel))⟩
theorem cv_L_72 : CV RL 72 M_X8_cuts 0 := ⟨cb_X8_cuts, (big_of 656 (by decide +kernel) (by decide +kernel)), (big_of 657 (by decide +kernel) (by decide +kernel)), (big_of 658 (by decide +kernel) (by decide +kernel))⟩
theorem cv_L_75 : CV RL 75 M_X9_cuts 0 := ⟨cb_X9_cuts, (big_of 1034 (by decide +kernel) (by decide +kernel)), (big_of 1035 (by decide +kernel) (by decide +kernel)), (big_of 1036 (by decide +kernel) (by decide +kernel))⟩
theorem cv_L_76 : CV RL 76 M_X8_roster 2 := ⟨cb_X8_roster, (big_of 667 (by decide +kernel) (by decide +kernel)), (big_of 668 (by decide +kernel) (by decide +kernel)), (big_of 669 (by decide +kernel) (by decide +kernel))⟩
theorem cv_L_79 : CV RL 79 M_X9_roster 2 := ⟨cb_X9_roster, (big_of 1038 (by decide +kernel) (by decide +kernel)), (big_of 1039 (by decide +kernel) (by decide +kernel)), (big_of 1040 (by decide +kernel) (by decide +kernel))⟩
theorem cv_L_80 : CV RL 80 M_X8_place 1 := ⟨cb_X8_place, (big_of 699 (by decide +kernel) (by decide +kernel)), (big_of 700 (by decide +kernel) (by decide +kernel)), (big_of 701 (by decide +kernel) (by decide +kernel))⟩
theorem cv_L_83 : CV RL 83 M_X9_place 1 := ⟨cb_X9_place, (big_of 1053 (by decide +kernel) (by decide +kernel)), (big_of 1054 (by decide +kernel) (by decide +kernel)), (big_of 1055 (by decide +kernel) (by decide +kernel))⟩
theorem cv_L_84 : CV RL 84 M_X8_strong 1 := ⟨cb_X8_strong, (big_of 712 (by decide +kernel) (by decide +kernel)), (big_of 713 (by decide +kernel) (by decide +kernel)), (big_of 714 (by decide +kernel) (by decide +kernel))⟩
theorem cv_L_87 : CV RL 87 M_X9_strong 1 := ⟨cb_X9_strong, (big_of 1057 (by decide +kernel) (by decide +kernel)), (big_of 1058 (by decide +kernel) (by decide +kernel)), (big_of 1059 (by decide +kernel) (by decide +kernel))⟩
theorem cv_L_88 : CV RL 88 M_X8_who 2 := ⟨cb_X8_who, (big_of 725 (by decide +kernel) (by decide +kernel)), (big_of 726 (by decide +kernel) (by decide +kernel)), (big_of 727 (by decide +kernel) (by decide +kernel))⟩
theorem cv_L_91 : CV RL 91 M_X9_who 2 := ⟨cb_X9_who, (big_of 1061 (by decide +kernel) (by decide +kernel)), (big_of 1062 (by decide +kernel) (by decide +kernel)), (big_of 1063 (by decide +kernel) (by decide +kernel))⟩
theorem cv_L_92 : CV RL 92 M_X8_knees 2 := ⟨cb_X8_knees, (big_of 737 (by decide +kernel) (by decide +kernel)), (big_of 738 (by decide +kernel) (by decide +kernel)), (big_of 739 (by decide +kernel) (by decide +kernel))⟩
theorem cv_L_95 : CV RL 95 M_X9_knees 2 := ⟨cb_X9_knees, (big_of 1065 (by decide +kernel) (by decide +kernel)), (big_of 1066 (by decide +kernel) (by decide +kernel)), (big_of 1067 (by decide +kernel) (by decide +kernel))⟩
theorem cv_L_96 : CV RL 96 M_X8_shirkers 2 := ⟨cb_X8_shirkers, (big_of 748 (by decide +kernel) (by decide +kernel)), (big_of 749 (by decide +kernel) (by decide +kernel)), (big_of 750 (by decide +kernel) (by decide +kernel))⟩
theorem cv_L_99 : CV RL 99 M_X9_shirkers 2 := ⟨cb_X9_shirkers, (big_of 1069 (by decide +kernel) (by decide +kernel)), (big_of 1070 (by decide +kernel) (by decide +kernel)), (big_of 1071 (by decide +kernel) (by decide +kernel))⟩
theorem cv_L_100 : CV RL 100 M_X8_night 3 := ⟨cb_X8_night, (big_of 766 (by decide +kernel) (by decide +kernel)), (big_of 767 (by decide +kernel) (by decide +kernel)), (big_of 768 (by decide +kernel) (by decide +kernel))⟩
theorem cv_L_104 : CV RL 104 M_X9_night 3 := ⟨cb_X9_night, (big_of 1073 (by decide +kernel) (by decide +kernel)), (big_of 1074 (by decide +kernel) (by decide +kernel)), (big_of 1075 (by decide +kernel) (by decide +kernel))⟩
theorem cv_L_105 : CV RL 105 M_X8_keep 0 := ⟨cb_X8_keep, (big_of 784 (by decide +kernel) (by decide +kernel)), (big_of 785 (by decide +kernel) (by decide +kernel)), (big_of 786 (by decide +kernel) (by decide +kernel))⟩
theorem cv_L_108 : CV RL 108 M_X9_keep 0 := ⟨cb_X9_keep, (big_of 1084 (by decide +kernel) (by decide +kernel)), (big_of 1085 (by decide +kernel) (by decide +kernel)), (big_of 1086 (by decide +kernel) (by decide +kernel))⟩
theorem cv_L_109 : CV RL 109 M_X8_back 0 := ⟨cb_X8_back, (big_of 789 (by decide +kernel) (by decide +kernel)), (big_of 790 (by decide +kernel) (by decide +kernel)), (big_of 791 (by decide +kernel) (by decide +kernel))⟩
theorem cv_L_112 : CV RL 112 M_X9_back 0 := ⟨cb_X9_back, (big_of 1088 (by decide +kernel) (by decide +kernel)), (big_of 1089 (by decide +kernel) (by decide +kernel)), (big_of 1090 (by decide +kernel) (by decide +kernel))⟩
theorem cv_L_113 : CV RL 113 M_X8_count 1 := ⟨cb_X8_count, (big_of 793 (by decide +kernel) (by decide +kernel)), (big_of 794 (by decide +kernel) (by decide +kernel)), (big_of 795 (by decide +kernel) (by decide +kernel))⟩
theorem cv_L_116 : CV RL 116 M_X9_count 1 := ⟨cb_X9_count, (big_of 1092 (by decide +kernel) (by decide +kernel)), (big_of 1093 (by decide +kernel) (by decide +kernel)), (big_of 1094 (by decide +kernel) (by decide +kernel))⟩
theorem lw_max : Cond.static Lib.Math.max.name ∈ big := (big_of 495 (by decide +kernel) (by decide +kernel))
theorem lc_max : Cond.code Lib.Math.max.name Lib.Math.max.code 2 (some .int) ∈ big := (big_of 496 (by decide +kernel) (by decide +kernel))
theorem lw_min : Cond.static Lib.Math.min.name ∈ big := (big_of 534 (by decide +kernel) (by decide +kernel))
theorem lc_min : Cond.code Lib.Math.min.name Lib.Math.min.code 2 (some .int) ∈ big := (big_of 535 (by decide +kernel) (by decide +kernel))
theorem lw_abs : Cond.static Lib.Math.abs.name ∈ big := (big_of 549 (by decide +kernel) (by decide +kernel))
theorem lc_abs : Cond.code Lib.Math.abs.name Lib.Math.abs.code 1 (some .int) ∈ big := (big_of 550 (by decide +kernel) (by decide +kernel))
theorem lw_math : Cond.initialized "java/lang/Math" ∈ big := (big_of 64 (by decide +kernel) (by decide +kernel))
theorem lw_sys : Cond.initialized "java/lang/System" ∈ big := (big_of 65 (by decide +kernel) (by decide +kernel))
theorem lw_acn : Cond.native arraycopyName ∈ big := (big_of 532 (by decide +kernel) (by decide +kernel))
theorem lw_acs : Cond.static arraycopyName ∈ big := (big_of 531 (by decide +kernel) (by decide +kernel))
theorem lw_oi : Cond.instanceMethod Lib.objectInit ∈ big := (big_of 73 (by decide +kernel) (by decide +kernel))
theorem lc_oi : Cond.code Lib.objectInit ⟨#[0xb1]⟩ 1 none ∈ big := (big_of 74 (by decide +kernel) (by decide +kernel))
theorem kc_J6_264 : Cond.constant RJ6 264 (65536) ∈ big := (big_of 632 (by decide +kernel) (by decide +kernel))
theorem kc_J6_265 : Cond.constant RJ6 265 (1431655765) ∈ big := (big_of 644 (by decide +kernel) (by decide +kernel))
theorem kc_J6_266 : Cond.constant RJ6 266 (858993459) ∈ big := (big_of 645 (by decide +kernel) (by decide +kernel))
theorem kc_J6_267 : Cond.constant RJ6 267 (252645135) ∈ big := (big_of 646 (by decide +kernel) (by decide +kernel))
theorem kc_X2_35 : Cond.constant RX2 35 (262144) ∈ big := (big_of 676 (by decide +kernel) (by decide +kernel))
theorem kc_X8_301 : Cond.constantLong RX8 301 (7919) ∈ big := (big_of 773 (by decide +kernel) (by decide +kernel))
theorem kc_X8_303 : Cond.constantLong RX8 303 (6151) ∈ big := (big_of 774 (by decide +kernel) (by decide +kernel))
theorem kc_X8_305 : Cond.constantLong RX8 305 (65521) ∈ big := (big_of 775 (by decide +kernel) (by decide +kernel))
theorem kc_X9_175 : Cond.constantLong RX9 175 (7919) ∈ big := (big_of 1077 (by decide +kernel) (by decide +kernel))
theorem kc_X9_177 : Cond.constantLong RX9 177 (6151) ∈ big := (big_of 1078 (by decide +kernel) (by decide +kernel))
theorem kc_X9_179 : Cond.constantLong RX9 179 (65521) ∈ big := (big_of 1079 (by decide +kernel) (by decide +kernel))
end
section
/-! 10.more: rules in the form in which the walks use them -/
section RM
variable {l : Launch} {M M' : MC} {z : Nat × Nat × Nat} {Q : Option Value → List va_E → Prop} {pc n ix nA : Nat} {ls : List (Option Value)} {st rest : List Value} {w cw cw' : List va_E} {ps : List Nat} {cav : List Value}
theorem g_lsN {ls' : List (Option Value)} (h : ls = ls') (kk : G l M z Q pc ls' st w) : G l M z Q pc ls st w := h ▸ kk
theorem g_wN {w' : List va_E} (h : w = w') (kk : G l M z Q pc ls st w') : G l M z Q pc ls st w := h ▸ kk
theorem g_stN {st' : List Value} (h : st = st') (kk : G l M z Q pc ls st' w) : G l M z Q pc ls st w := h ▸ kk
/-- a static method of numbers -/
theorem g_callSi {v : Int32} (hcall : CS (mnm M).cls ix M' nA) (hcon : Fn l M' cav [] (some (.int v)) []) (hd : decode (mby M) pc = .ok (.invokestatic ix, 3)) (hst : st = cav.reverse ++ rest) (hcav : cav.map (rv (sg [])) = cav)
    (hdp : mdp M' + 1 ≤ mdp M ∧ mlo M' ≤ 29 ∧ mkc M' = 0 ∧ mks M' = 0 ∧ z.2.1 ≤ mkc M ∧ z.2.2 ≤ mks M) (hna : cav.length = nA) (hrs : (rest.map fun v => v.category).sum ≤ 8) (hn : pc + 3 = n) (kk : G l M z Q n ls (.int v :: rest) w) : G l M z Q pc ls st w := by
  refine g_callS (ps := []) hcall hcon hd (by rw [hcav]; exact hst) rfl rfl hdp hna hrs hn (fun r cw' hq => ?_)
  obtain ⟨rfl, rfl⟩ := hq
  exact ⟨rfl, kk⟩
theorem g_callSNi {v : Int32} (hcall : CSN (mnm M).cls ix M' nA) (hcon : Fn l M' cav [] (some (.int v)) []) (hd : decode (mby M) pc = .ok (.invokestatic ix, 3)) (hst : st = cav.reverse ++ rest) (hcav : cav.map (rv (sg [])) = cav)
    (hdp : mdp M' + 1 ≤ mdp M ∧ mlo M' ≤ 29 ∧ mkc M' = 0 ∧ mks M' = 0 ∧ z.2.1 ≤ mkc M ∧ z.2.2 ≤ mks M) (hna : cav.length = nA) (hrs : (rest.map fun v => v.category).sum ≤ 8) (hn : pc + 3 = n) (kk : G l M z Q n ls (.int v :: rest) w) : G l M z Q pc ls st w := by
  refine g_callSN (ps := []) hcall hcon hd (by rw [hcav]; exact hst) rfl rfl hdp hna hrs hn (fun r cw' hq => ?_)
  obtain ⟨rfl, rfl⟩ := hq
  exact ⟨rfl, kk⟩
theorem g_callWi {b0 ci : Nat} {fs : List Value} {v : Int32} {w' : List va_E} (hcall : CV (mnm M).cls ix M' nA) (hcon : Fn l M' (.ref b0 :: cav) w (some (.int v)) w') (hd : decode (mby M) pc = .ok (.invokevirtual ix, 3)) (hst : st = cav.reverse ++ .ref b0 :: rest)
    (hdp : mdp M' + 1 ≤ mdp M ∧ mlo M' ≤ 29 ∧ mkc M' = 0 ∧ mks M' = 0 ∧ z.2.1 ≤ mkc M ∧ z.2.2 ≤ mks M) (hrc : w[b0]? = some (.inr (ci, fs))) (hci : (vwCl[ci]?).map (fun r => r.1) = some (mnm M').cls) (hna : cav.length = nA) (hrs : (rest.map fun v => v.category).sum ≤ 8) (hlen : w'.length = w.length) (hn : pc + 3 = n)
    (kk : G l M z Q n ls (.int v :: rest) w') : G l M z Q pc ls st w := by
  refine g_callW hcall hcon hd hst hdp hrc hci hna hrs hn (fun r u hq => ?_)
  obtain ⟨rfl, rfl⟩ := hq
  exact ⟨hlen, kk⟩
theorem g_callWv {b0 ci : Nat} {fs : List Value} {w' : List va_E} (hcall : CV (mnm M).cls ix M' nA) (hcon : Fn l M' (.ref b0 :: cav) w none w') (hd : decode (mby M) pc = .ok (.invokevirtual ix, 3)) (hst : st = cav.reverse ++ .ref b0 :: rest)
    (hdp : mdp M' + 1 ≤ mdp M ∧ mlo M' ≤ 29 ∧ mkc M' = 0 ∧ mks M' = 0 ∧ z.2.1 ≤ mkc M ∧ z.2.2 ≤ mks M) (hrc : w[b0]? = some (.inr (ci, fs))) (hci : (vwCl[ci]?).map (fun r => r.1) = some (mnm M').cls) (hna : cav.length = nA) (hrs : (rest.map fun v => v.category).sum ≤ 8) (hlen : w'.length = w.length) (hn : pc + 3 = n)
    (kk : G l M z Q n ls rest w') : G l M z Q pc ls st w := by
  refine g_callW hcall hcon hd hst hdp hrc hci hna hrs hn (fun r u hq => ?_)
  obtain ⟨rfl, rfl⟩ := hq
  exact ⟨hlen, kk⟩
theorem g_callVi {b0 ci : Nat} {fs : List Value} {v : Int32} {w' : List va_E} (hcall : CV (mnm M).cls ix M' nA) (hcon : Fn l M' (.ref b0 :: cav) cw (some (.int v)) cw') (hd : decode (mby M) pc = .ok (.invokevirtual ix, 3)) (hst : st = (cav.map (rv (sg ps))).reverse ++ .ref (sg ps b0) :: rest) (hw : ps.map (fun i => w[i]?) = cw.map (fun x => some (ren ps x))) (hnd : va_nd ps = true)
    (hdp : mdp M' + 1 ≤ mdp M ∧ mlo M' ≤ 29 ∧ mkc M' = 0 ∧ mks M' = 0 ∧ z.2.1 ≤ mkc M ∧ z.2.2 ≤ mks M) (hrc : cw[b0]? = some (.inr (ci, fs))) (hci : (vwCl[ci]?).map (fun r => r.1) = some (mnm M').cls) (hna : cav.length = nA) (hrs : (rest.map fun v => v.category).sum ≤ 8) (hlen : cw'.length = cw.length) (hn : pc + 3 = n) (hput : putL w ps cw' = w')
    (kk : G l M z Q n ls (.int v :: rest) w') : G l M z Q pc ls st w := by
  refine g_callV hcall hcon hd hst hw hnd hdp hrc hci hna hrs hn (fun r u hq => ?_)
  obtain ⟨rfl, rfl⟩ := hq
  subst hput
  exact ⟨hlen, kk⟩
theorem g_callVv {b0 ci : Nat} {fs : List Value} {w' : List va_E} (hcall : CV (mnm M).cls ix M' nA) (hcon : Fn l M' (.ref b0 :: cav) cw none cw') (hd : decode (mby M) pc = .ok (.invokevirtual ix, 3)) (hst : st = (cav.map (rv (sg ps))).reverse ++ .ref (sg ps b0) :: rest) (hw : ps.map (fun i => w[i]?) = cw.map (fun x => some (ren ps x))) (hnd : va_nd ps = true)
    (hdp : mdp M' + 1 ≤ mdp M ∧ mlo M' ≤ 29 ∧ mkc M' = 0 ∧ mks M' = 0 ∧ z.2.1 ≤ mkc M ∧ z.2.2 ≤ mks M) (hrc : cw[b0]? = some (.inr (ci, fs))) (hci : (vwCl[ci]?).map (fun r => r.1) = some (mnm M').cls) (hna : cav.length = nA) (hrs : (rest.map fun v => v.category).sum ≤ 8) (hlen : cw'.length = cw.length) (hn : pc + 3 = n) (hput : putL w ps cw' = w')
    (kk : G l M z Q n ls rest w') : G l M z Q pc ls st w := by
  refine g_callV hcall hcon hd hst hw hnd hdp hrc hci hna hrs hn (fun r u hq => ?_)
  obtain ⟨rfl, rfl⟩ := hq
  subst hput
  exact ⟨hlen, kk⟩
theorem g_callPi {v : Int32} {w' : List va_E} (hcall : CS (mnm M).cls ix M' nA) (hcon : Fn l M' cav cw (some (.int v)) cw') (hd : decode (mby M) pc = .ok (.invokestatic ix, 3)) (hst : st = (cav.map (rv (sg ps))).reverse ++ rest) (hw : ps.map (fun i => w[i]?) = cw.map (fun x => some (ren ps x))) (hnd : va_nd ps = true)
    (hdp : mdp M' + 1 ≤ mdp M ∧ mlo M' ≤ 29 ∧ mkc M' = 0 ∧ mks M' = 0 ∧ z.2.1 ≤ mkc M ∧ z.2.2 ≤ mks M) (hna : cav.length = nA) (hrs : (rest.map fun v => v.category).sum ≤ 8) (hlen : cw'.length = cw.length) (hn : pc + 3 = n) (hput : putL w ps cw' = w')
    (kk : G l M z Q n ls (.int v :: rest) w') : G l M z Q pc ls st w := by
  refine g_callS hcall hcon hd hst hw hnd hdp hna hrs hn (fun r u hq => ?_)
  obtain ⟨rfl, rfl⟩ := hq
  subst hput
  exact ⟨hlen, kk⟩
theorem g_callPv {w' : List va_E} (hcall : CS (mnm M).cls ix M' nA) (hcon : Fn l M' cav cw none cw') (hd : decode (mby M) pc = .ok (.invokestatic ix, 3)) (hst : st = (cav.map (rv (sg ps))).reverse ++ rest) (hw : ps.map (fun i => w[i]?) = cw.map (fun x => some (ren ps x))) (hnd : va_nd ps = true)
    (hdp : mdp M' + 1 ≤ mdp M ∧ mlo M' ≤ 29 ∧ mkc M' = 0 ∧ mks M' = 0 ∧ z.2.1 ≤ mkc M ∧ z.2.2 ≤ mks M) (hna : cav.length = nA) (hrs : (rest.map fun v => v.category).sum ≤ 8) (hlen : cw'.length = cw.length) (hn : pc + 3 = n) (hput : putL w ps cw' = w')
    (kk : G l M z Q n ls rest w') : G l M z Q pc ls st w := by
  refine g_callS hcall hcon hd hst hw hnd hdp hna hrs hn (fun r u hq => ?_)
  obtain ⟨rfl, rfl⟩ := hq
  subst hput
  exact ⟨hlen, kk⟩
end RM
/-! truth values, bits -/
def bI (b : Bool) : Int32 := if b then nI 1 else nI 0
theorem bI_t {b : Bool} (h : b = true) : bI b = nI 1 := by rw [h]; rfl
theorem bI_f {b : Bool} (h : b = false) : bI b = nI 0 := by rw [h]; rfl
theorem bI_0 {b : Bool} : bI b = 0 ↔ b = false := by cases b <;> decide
theorem bI_n0 {b : Bool} : ¬ bI b = 0 ↔ b = true := by cases b <;> decide
theorem bI_nar (b : Bool) : narrow .boolean (.int (bI b)) = .int (bI b) := by cases b <;> decide
theorem nI1_eq : (nI 1 = 0) = False := by decide
theorem nI0_eq : (nI 0 = 0) = True := by decide
/-- bit k of x, as the program asks for it -/
def hb (x k : Int32) : Bool := decide (x >>> (k &&& 31) &&& nI 1 = nI 1)
/-- v within lo and hi -/
def inB (v lo hi : Int32) : Bool := decide (lo ≤ v) && decide (v ≤ hi)
end
section
/-! 11.mleaf: the reference: its world, its leaves -/
abbrev MR : Type := (Nat → Int32) × Int32 × (Nat → Int32) × (Nat → Int32) × Int32 × (Nat → Int32) × Int32 × (Nat → Int32) × Int32 × Int32 × (Nat → Int32)
/-- the reference's cells: e: text, typed, draft, begun, downs, past, known, images, kept, at, aside -/
abbrev mw (e : MR) (to s : Nat → Int32) : List va_E := [.inr (9, [.ref 1, .int e.2.1, .ref 2, .ref 3, .ref 4, .int e.2.2.2.2.1, .ref 5, .ref 6, .int e.2.2.2.2.2.2.1, .ref 7, .int e.2.2.2.2.2.2.2.2.1, .int e.2.2.2.2.2.2.2.2.2.1, .ref 8]), .inl (0, 200, .inl e.1), .inl (0, 38, .inl to), .inl (0, 38, .inl e.2.2.1), .inl (0, 6, .inl e.2.2.2.1), .inl (0, 23, .inl s), .inl (0, 184, .inl e.2.2.2.2.2.1), .inl (0, 46, .inl e.2.2.2.2.2.2.2.1), .inl (0, 23, .inl e.2.2.2.2.2.2.2.2.2.2)]
theorem okT {P : Bool} (h : P = true) : some (Value.int (nI 1)) = some (Value.int (bI P)) := by rw [h]; rfl
theorem okF {P : Bool} (h : P = false) : some (Value.int (nI 0)) = some (Value.int (bI P)) := by rw [h]; rfl
theorem loopN {P : Nat → Prop} (e : Nat) (hx : P e) (hs : ∀ i, i < e → P (i + 1) → P i) : ∀ i, i ≤ e → P i := by
  have h : ∀ k i, i + k = e → P i := by
    intro k
    induction k with
    | zero => intro i hi; have : i = e := by omega
              subst this; exact hx
    | succ k ih => intro i hi; exact hs i (by omega) (ih (i + 1) (by omega))
  exact fun i hi => h (e - i) i (by omega)

set_option maxRecDepth 20000 in
theorem t_X9_in (l : Launch) (v a b : Int32) : Fn l M_X9_in [.int v, .int a, .int b] [] (some (.int (bI (inB v a b)))) [] := by
  refine con_of rfl rfl (Nat.le_of_ble_eq_true rfl) ?_
  refine g_lsN (ls' := [_, _, _]) rfl ?_
  refine g_iload_n (n := 1) dX9_in_0 rfl rfl ?_
  refine g_iload_n (n := 2) dX9_in_1 rfl rfl ?_
  refine g_icmp_lt (tgt := 14) (n := 5) dX9_in_2 (by decide) rfl (fun c2 => ?_) (fun c2 => ?_)
  ·
    have hF : inB v a b = false := by simp only [inB, decide_eq_false (Int32.not_le.mpr c2), Bool.false_and]
    refine g_iconst (v := nI 0) (n := 15) dX9_in_14 (by decide) rfl ?_
    exact g_iret (ty := .boolean) dX9_in_15 rfl (by first | exact bI_nar _ | decide) ⟨Nat.zero_le _, Nat.zero_le _⟩ ⟨by first | exact okT hT | exact okF hF, rfl⟩
  ·
    refine g_iload_n (n := 6) dX9_in_5 rfl rfl ?_
    refine g_iload_n (n := 7) dX9_in_6 rfl rfl ?_
    refine g_icmp_gt (tgt := 14) (n := 10) dX9_in_7 (by decide) rfl (fun c7 => ?_) (fun c7 => ?_)
    ·
      have hF : inB v a b = false := by simp only [inB, decide_eq_false (Int32.not_le.mpr c7), Bool.and_false]
      refine g_iconst (v := nI 0) (n := 15) dX9_in_14 (by decide) rfl ?_
      exact g_iret (ty := .boolean) dX9_in_15 rfl (by first | exact bI_nar _ | decide) ⟨Nat.zero_le _, Nat.zero_le _⟩ ⟨by first | exact okT hT | exact okF hF, rfl⟩
    ·
      have hT : inB v a b = true := by simp only [inB, decide_eq_true (Int32.not_lt.mp c2), decide_eq_true (Int32.not_lt.mp c7), Bool.and_true]
      refine g_iconst (v := nI 1) (n := 11) dX9_in_10 (by decide) rfl ?_
      refine g_goto (tgt := 15) dX9_in_11 (by decide) ?_
      exact g_iret (ty := .boolean) dX9_in_15 rfl (by first | exact bI_nar _ | decide) ⟨Nat.zero_le _, Nat.zero_le _⟩ ⟨by first | exact okT hT | exact okF hF, rfl⟩
set_option maxRecDepth 20000 in
theorem t_X9_has (l : Launch) (x k : Int32) : Fn l M_X9_has [.int x, .int k] [] (some (.int (bI (hb x k)))) [] := by
  refine con_of rfl rfl (Nat.le_of_ble_eq_true rfl) ?_
  refine g_lsN (ls' := [_, _]) rfl ?_
  refine g_iload_n (n := 1) dX9_has_0 rfl rfl ?_
  refine g_iload_n (n := 2) dX9_has_1 rfl rfl ?_
  refine g_ishr (n := 3) dX9_has_2 rfl ?_
  refine g_iconst (v := nI 1) (n := 4) dX9_has_3 (by decide) rfl ?_
  refine g_iand (n := 5) dX9_has_4 rfl ?_
  refine g_iconst (v := nI 1) (n := 6) dX9_has_5 (by decide) rfl ?_
  refine g_icmp_ne (tgt := 13) (n := 9) dX9_has_6 (by decide) rfl (fun c6 => ?_) (fun c6 => ?_)
  ·
    have hF : hb x k = false := decide_eq_false c6
    refine g_iconst (v := nI 0) (n := 14) dX9_has_13 (by decide) rfl ?_
    exact g_iret (ty := .boolean) dX9_has_14 rfl (by first | exact bI_nar _ | decide) ⟨Nat.zero_le _, Nat.zero_le _⟩ ⟨by first | exact okT hT | exact okF hF, rfl⟩
  ·
    have hT : hb x k = true := decide_eq_true c6
    refine g_iconst (v := nI 1) (n := 10) dX9_has_9 (by decide) rfl ?_
    refine g_goto (tgt := 14) dX9_has_10 (by decide) ?_
    exact g_iret (ty := .boolean) dX9_has_14 rfl (by first | exact bI_nar _ | decide) ⟨Nat.zero_le _, Nat.zero_le _⟩ ⟨by first | exact okT hT | exact okF hF, rfl⟩
/-- how many of the lowest n bits are set -/
def on (x : Int32) : Nat → Int32
  | 0 => nI 0
  | k + 1 => on x k + (x >>> (nI k &&& 31) &&& nI 1)
set_option maxRecDepth 20000 in
theorem lp_X9_ones (l : Launch) (z : Nat × Nat × Nat) (hz : z.2.1 ≤ 0 ∧ z.2.2 ≤ 0) (Q : Option Value → List va_E → Prop) (x : Int32) (hQ : Q (some (.int (on x 8))) []) : ∀ k, k ≤ 8 → G l M_X9_ones z Q 4 [some (.int x), some (.int (on x k)), some (.int (nI k))] [] [] := by
  refine loopN 8 ?_ (fun k hk ih => ?_)
  ·
    refine g_iload_n (n := 5) dX9_ones_4 rfl rfl ?_
    refine g_bipush (v := nI 8) (n := 7) dX9_ones_5 (by decide) rfl ?_
    refine g_icmp_ge (tgt := 24) (n := 10) dX9_ones_7 (by decide) rfl (fun c7 => ?_) (fun c7 => absurd (nI_le (Nat.le_refl 8) (by decide)) c7)
    refine g_iload_n (n := 25) dX9_ones_24 rfl rfl ?_
    exact g_iret (ty := .int) dX9_ones_25 rfl rfl hz hQ
  ·
    refine g_iload_n (n := 5) dX9_ones_4 rfl rfl ?_
    refine g_bipush (v := nI 8) (n := 7) dX9_ones_5 (by decide) rfl ?_
    refine g_icmp_ge (tgt := 24) (n := 10) dX9_ones_7 (by decide) rfl (fun c7 => absurd c7 (nI_ge hk (by decide))) (fun c7 => ?_)
    refine g_iload_n (n := 11) dX9_ones_10 rfl rfl ?_
    refine g_iload_n (n := 12) dX9_ones_11 rfl rfl ?_
    refine g_iload_n (n := 13) dX9_ones_12 rfl rfl ?_
    refine g_ishr (n := 14) dX9_ones_13 rfl ?_
    refine g_iconst (v := nI 1) (n := 15) dX9_ones_14 (by decide) rfl ?_
    refine g_iand (n := 16) dX9_ones_15 rfl ?_
    refine g_iadd (n := 17) dX9_ones_16 rfl ?_
    refine g_istore_n (n := 18) dX9_ones_17 (by decide) rfl rfl ?_
    refine g_lsN (ls' := [_, _, _]) rfl ?_
    refine g_iincN (k := 1) (n := 21) dX9_ones_18 rfl (by decide) rfl rfl ?_
    refine g_lsN (ls' := [_, _, _]) rfl ?_
    refine g_goto (tgt := 4) dX9_ones_21 (by decide) ?_
    exact ih
set_option maxRecDepth 20000 in
theorem t_X9_ones (l : Launch) (x : Int32) : Fn l M_X9_ones [.int x] [] (some (.int (on x 8))) [] := by
  refine con_of rfl rfl (Nat.le_of_ble_eq_true rfl) ?_
  refine g_lsN (ls' := [_, _, _]) rfl ?_
  refine g_iconst (v := nI 0) (n := 1) dX9_ones_0 (by decide) rfl ?_
  refine g_istore_n (n := 2) dX9_ones_1 (by decide) rfl rfl ?_
  refine g_lsN (ls' := [_, _, _]) rfl ?_
  refine g_iconst (v := nI 0) (n := 3) dX9_ones_2 (by decide) rfl ?_
  refine g_istore_n (n := 4) dX9_ones_3 (by decide) rfl rfl ?_
  refine g_lsN (ls' := [_, _, _]) rfl ?_
  exact lp_X9_ones l _ ⟨Nat.zero_le _, Nat.zero_le _⟩ _ x ⟨rfl, rfl⟩ 0 (by decide)
/-! a wall told: bays, buttresses, carts, their bits, thrusts, patience, kinds, strengths, knees -/
abbrev WT : Type := Nat × Nat × Nat × Int32 × (Nat → Int32) × (Nat → Int32) × (Nat → Int32) × (Nat → Int32) × (Nat → Int32)
abbrev vnb (V : WT) : Nat := V.1
abbrev vnf (V : WT) : Nat := V.2.1
abbrev vnc (V : WT) : Nat := V.2.2.1
abbrev vca (V : WT) : Int32 := V.2.2.2.1
abbrev vth (V : WT) : Nat → Int32 := V.2.2.2.2.1
abbrev vpa (V : WT) : Nat → Int32 := V.2.2.2.2.2.1
abbrev vki (V : WT) : Nat → Int32 := V.2.2.2.2.2.2.1
abbrev vsg (V : WT) : Nat → Int32 := V.2.2.2.2.2.2.2.1
abbrev vkn (V : WT) : Nat → Int32 := V.2.2.2.2.2.2.2.2
/-! how things stand: hour, who is up, what has fallen, how tired, where, for how long unheld -/
abbrev ST : Type := Int32 × Int32 × Int32 × (Nat → Int32) × (Nat → Int32) × (Nat → Int32)
abbrev sho (S : ST) : Int32 := S.1
abbrev sup (S : ST) : Int32 := S.2.1
abbrev sfa (S : ST) : Int32 := S.2.2.1
abbrev sti (S : ST) : Nat → Int32 := S.2.2.2.1
abbrev sbo (S : ST) : Nat → Int32 := S.2.2.2.2.1
abbrev sun (S : ST) : Nat → Int32 := S.2.2.2.2.2
def tk (V : WT) : Nat → Int32 := fun k => if k = 0 then nI (vnb V) else if k = 1 then nI (vnf V) else if k = 2 then nI (vnc V) else if k = 3 then vca V else if k < 12 then vth V (k - 4) else if k < 20 then vpa V (k - 12) else if k < 26 then vki V (k - 20) else if k < 32 then vsg V (k - 26) else vkn V (k - 32)
def pk (S : ST) : Nat → Int32 := fun k => if k = 0 then sho S else if k = 1 then sup S else if k = 2 then sfa S else if k < 9 then sti S (k - 3) else if k < 15 then sbo S (k - 9) else sun S (k - 15)
theorem tk_0 (V : WT) : tk V 0 = nI (vnb V) := rfl
theorem tk_1 (V : WT) : tk V 1 = nI (vnf V) := rfl
theorem tk_2 (V : WT) : tk V 2 = nI (vnc V) := rfl
theorem tk_3 (V : WT) : tk V 3 = vca V := rfl
theorem tk_th (V : WT) {b : Nat} (h : b < 8) : tk V (4 + b) = vth V b := by
  unfold tk
  rw [if_neg (by omega), if_neg (by omega), if_neg (by omega), if_neg (by omega), if_pos (by omega), Nat.add_sub_cancel_left]
theorem tk_pa (V : WT) {b : Nat} (h : b < 8) : tk V (12 + b) = vpa V b := by
  unfold tk
  rw [if_neg (by omega), if_neg (by omega), if_neg (by omega), if_neg (by omega), if_neg (by omega), if_pos (by omega), Nat.add_sub_cancel_left]
theorem tk_ki (V : WT) {f : Nat} (h : f < 6) : tk V (20 + f) = vki V f := by
  unfold tk
  rw [if_neg (by omega), if_neg (by omega), if_neg (by omega), if_neg (by omega), if_neg (by omega), if_neg (by omega), if_pos (by omega), Nat.add_sub_cancel_left]
theorem tk_sg (V : WT) {f : Nat} (h : f < 6) : tk V (26 + f) = vsg V f := by
  unfold tk
  rw [if_neg (by omega), if_neg (by omega), if_neg (by omega), if_neg (by omega), if_neg (by omega), if_neg (by omega), if_neg (by omega), if_pos (by omega), Nat.add_sub_cancel_left]
theorem tk_kn (V : WT) {f : Nat} (h : f < 6) : tk V (32 + f) = vkn V f := by
  unfold tk
  rw [if_neg (by omega), if_neg (by omega), if_neg (by omega), if_neg (by omega), if_neg (by omega), if_neg (by omega), if_neg (by omega), if_neg (by omega), Nat.add_sub_cancel_left]
theorem sk_0 (S : ST) : pk S 0 = sho S := rfl
theorem sk_1 (S : ST) : pk S 1 = sup S := rfl
theorem sk_2 (S : ST) : pk S 2 = sfa S := rfl
theorem sk_ti (S : ST) {f : Nat} (h : f < 6) : pk S (3 + f) = sti S f := by
  unfold pk
  rw [if_neg (by omega), if_neg (by omega), if_neg (by omega), if_pos (by omega), Nat.add_sub_cancel_left]
theorem sk_bo (S : ST) {f : Nat} (h : f < 6) : pk S (9 + f) = sbo S f := by
  unfold pk
  rw [if_neg (by omega), if_neg (by omega), if_neg (by omega), if_neg (by omega), if_pos (by omega), Nat.add_sub_cancel_left]
theorem sk_un (S : ST) {b : Nat} (h : b < 8) : pk S (15 + b) = sun S b := by
  unfold pk
  rw [if_neg (by omega), if_neg (by omega), if_neg (by omega), if_neg (by omega), if_neg (by omega), Nat.add_sub_cancel_left]
theorem sk_up (h u f u2 : Int32) (ti bo un : Nat → Int32) : upd (pk (h, u, f, ti, bo, un)) 1 u2 = pk (h, u2, f, ti, bo, un) := by
  funext k; unfold upd pk; by_cases h1 : k = 1 <;> simp [h1]
theorem sk_fa (h u f f2 : Int32) (ti bo un : Nat → Int32) : upd (pk (h, u, f, ti, bo, un)) 2 f2 = pk (h, u, f2, ti, bo, un) := by
  funext k; unfold upd pk; by_cases h1 : k = 2 <;> simp [h1]
theorem sk_ho (h u f h2 : Int32) (ti bo un : Nat → Int32) : upd (pk (h, u, f, ti, bo, un)) 0 h2 = pk (h2, u, f, ti, bo, un) := by
  funext k; unfold upd pk; by_cases h1 : k = 0 <;> simp [h1]
theorem sk_uti (h u f x : Int32) (ti bo un : Nat → Int32) {j : Nat} (hj : j < 6) : upd (pk (h, u, f, ti, bo, un)) (3 + j) x = pk (h, u, f, upd ti j x, bo, un) := by
  funext k
  unfold upd pk
  by_cases h1 : k = 3 + j
  · subst h1
    rw [if_pos rfl, if_neg (by omega), if_neg (by omega), if_neg (by omega), if_pos (by omega)]
    show x = if 3 + j - 3 = j then x else _
    rw [if_pos (by omega)]
  · rw [if_neg h1]
    by_cases h2 : k < 9
    · simp only [h2, if_true]
      by_cases h3 : k < 3
      · rcases (show k = 0 ∨ k = 1 ∨ k = 2 by omega) with rfl | rfl | rfl <;> rfl
      · show _ = if k = 0 then _ else if k = 1 then _ else if k = 2 then _ else if k - 3 = j then x else ti (k - 3)
        rw [if_neg (show ¬ k - 3 = j by omega)]
    · simp only [h2, if_false]
theorem sk_ubo (h u f x : Int32) (ti bo un : Nat → Int32) {j : Nat} (hj : j < 6) : upd (pk (h, u, f, ti, bo, un)) (9 + j) x = pk (h, u, f, ti, upd bo j x, un) := by
  funext k
  unfold upd pk
  by_cases h1 : k = 9 + j
  · subst h1
    rw [if_pos rfl, if_neg (by omega), if_neg (by omega), if_neg (by omega), if_neg (by omega), if_pos (by omega)]
    show x = if 9 + j - 9 = j then x else _
    rw [if_pos (by omega)]
  · rw [if_neg h1]
    by_cases h2 : k < 9
    · simp only [h2, if_true]
    · simp only [h2, if_false]
      show _ = if k = 0 then _ else if k = 1 then _ else if k = 2 then _ else if k < 15 then (if k - 9 = j then x else bo (k - 9)) else _
      rw [if_neg (show ¬ k - 9 = j by omega)]
theorem sk_uun (h u f x : Int32) (ti bo un : Nat → Int32) {j : Nat} (hj : j < 8) : upd (pk (h, u, f, ti, bo, un)) (15 + j) x = pk (h, u, f, ti, bo, upd un j x) := by
  funext k
  unfold upd pk
  by_cases h1 : k = 15 + j
  · subst h1
    rw [if_pos rfl, if_neg (by omega), if_neg (by omega), if_neg (by omega), if_neg (by omega), if_neg (by omega)]
    show x = if 15 + j - 15 = j then x else _
    rw [if_pos (by omega)]
  · rw [if_neg h1]
    by_cases h2 : k < 15
    · by_cases h3 : k < 9
      · simp only [h3, if_true]
      · simp only [h2, h3, if_true, if_false]
    · simp only [h2, show ¬ k < 9 by omega, if_false]
      show _ = if k = 0 then _ else if k = 1 then _ else if k = 2 then _ else (if k - 15 = j then x else un (k - 15))
      rw [if_neg (show ¬ k - 15 = j by omega)]
/-- limits of a wall that is told -/
def okV (V : WT) : Prop := vnb V ≤ 8 ∧ vnf V ≤ 6 ∧ vnc V ≤ 12
end
section
/-! 12.mhour: the reference's loads, props, what is held -/
def isB (nb : Nat) (x : Int32) : Bool := inB x (nI 0) (nI nb - nI 1)
theorem isB_t {nb : Nat} {x : Int32} (hn : nb ≤ 64) (h : isB nb x = true) : ∃ b : Nat, b < nb ∧ x = nI b := by
  simp only [isB, inB, Bool.and_eq_true, decide_eq_true_eq, Int32.le_iff_toInt_le] at h
  obtain ⟨h1, h2⟩ := h
  rw [pk_sub_toInt (by omega) (by omega)] at h2
  rw [nI_toInt (by omega)] at h1
  refine ⟨x.toInt.toNat, by omega, ?_⟩
  apply Int32.toInt_inj.mp
  rw [nI_toInt (by omega)]
  omega
theorem isB_nI {nb b : Nat} (hn : nb ≤ 64) (hb : b < 64) : isB nb (nI b) = decide (b < nb) := by
  simp only [isB, inB, Int32.le_iff_toInt_le]
  rw [pk_sub_toInt (by omega) (by omega), nI_toInt (by omega), nI_toInt (by omega)]
  by_cases h : b < nb
  · simp only [h, decide_true]
    rw [decide_eq_true (by omega), decide_eq_true (by omega)]; rfl
  · simp only [h, decide_false]
    rw [decide_eq_false (p := (b : Int) ≤ _) (by omega), Bool.and_false]
def ldF (V : WT) (S : ST) (b : Nat) : Int32 := vth V b + (if decide (0 < b) && hb (sfa S) (nI (b - 1)) then vth V (b - 1) / nI 2 else nI 0) + (if decide (b + 1 < vnb V) && hb (sfa S) (nI (b + 1)) then vth V (b + 1) / nI 2 else nI 0)
def srN (V : WT) (S : ST) (b : Nat) : Nat → Int32
  | 0 => nI 0
  | f + 1 => srN V S b f + (if hb (sup S) (nI f) && decide (sbo S f = nI b) then vsg V f else nI 0)
def srF (V : WT) (S : ST) (b : Nat) : Int32 := srN V S b (vnf V)
def hpF (V : WT) (S : ST) (b : Nat) : Int32 := if hb (sfa S) (nI b) then nI 0 else if srF V S b - ldF V S b ≤ 0 then nI 0 else (srF V S b - ldF V S b) / nI 2
def hpI (V : WT) (S : ST) (x : Int32) : Int32 := if isB (vnb V) x then hpF V S x.toNatClampNeg else nI 0
def prF (V : WT) (S : ST) (b : Nat) : Int32 := srF V S b + hpI V S (nI b - nI 1) + hpI V S (nI (b + 1))
def isH (V : WT) (S : ST) (b : Nat) : Bool := !hb (sfa S) (nI b) && decide (ldF V S b ≤ prF V S b)
def hdN (V : WT) (S : ST) : Nat → Int32
  | 0 => nI 0
  | b + 1 => hdN V S b ||| (if isH V S b then nI 1 <<< (nI b &&& 31) else nI 0)

set_option maxRecDepth 20000 in
theorem t_X9_isBay (l : Launch) (e : MR) (V : WT) (s : Nat → Int32) (x : Int32) : Fn l M_X9_isBay [.ref 0, .int x] (mw e (tk V) s) (some (.int (bI (isB (vnb V) x)))) (mw e (tk V) s) := by
  refine con_of rfl rfl (Nat.le_of_ble_eq_true rfl) ?_
  refine g_lsN (ls' := [_, _]) rfl ?_
  refine g_iload_n (n := 1) dX9_isBay_0 rfl rfl ?_
  refine g_iconst (v := nI 0) (n := 2) dX9_isBay_1 (by decide) rfl ?_
  refine g_aload_n (n := 3) dX9_isBay_2 rfl rfl ?_
  refine g_get (n := 6) fl_X9_13 dX9_isBay_3 rfl rfl rfl ?_
  refine g_iconst (v := nI 0) (n := 7) dX9_isBay_6 (by decide) rfl ?_
  refine g_ialdN (n := 8) dX9_isBay_7 rfl rfl (by decide) (by omega) ?_
  refine g_top (tk_0 _) ?_
  refine g_iconst (v := nI 1) (n := 9) dX9_isBay_8 (by decide) rfl ?_
  refine g_isub (n := 10) dX9_isBay_9 rfl ?_
  refine g_callSi (n := 13) cs_X9_52 (t_X9_in l _ _ _) dX9_isBay_10 rfl rfl ⟨by decide, by decide, rfl, rfl, Nat.zero_le _, Nat.zero_le _⟩ rfl (Nat.le_of_ble_eq_true rfl) rfl ?_
  exact g_iret (ty := .boolean) dX9_isBay_13 rfl (by first | exact bI_nar _ | decide) ⟨Nat.zero_le _, Nat.zero_le _⟩ ⟨rfl, rfl⟩
set_option maxRecDepth 20000 in
theorem t_X9_isButtress (l : Launch) (e : MR) (V : WT) (s : Nat → Int32) (x : Int32) : Fn l M_X9_isButtress [.ref 0, .int x] (mw e (tk V) s) (some (.int (bI (isB (vnf V) x)))) (mw e (tk V) s) := by
  refine con_of rfl rfl (Nat.le_of_ble_eq_true rfl) ?_
  refine g_lsN (ls' := [_, _]) rfl ?_
  refine g_iload_n (n := 1) dX9_isButtress_0 rfl rfl ?_
  refine g_iconst (v := nI 0) (n := 2) dX9_isButtress_1 (by decide) rfl ?_
  refine g_aload_n (n := 3) dX9_isButtress_2 rfl rfl ?_
  refine g_get (n := 6) fl_X9_13 dX9_isButtress_3 rfl rfl rfl ?_
  refine g_iconst (v := nI 1) (n := 7) dX9_isButtress_6 (by decide) rfl ?_
  refine g_ialdN (n := 8) dX9_isButtress_7 rfl rfl (by decide) (by omega) ?_
  refine g_top (tk_1 _) ?_
  refine g_iconst (v := nI 1) (n := 9) dX9_isButtress_8 (by decide) rfl ?_
  refine g_isub (n := 10) dX9_isButtress_9 rfl ?_
  refine g_callSi (n := 13) cs_X9_52 (t_X9_in l _ _ _) dX9_isButtress_10 rfl rfl ⟨by decide, by decide, rfl, rfl, Nat.zero_le _, Nat.zero_le _⟩ rfl (Nat.le_of_ble_eq_true rfl) rfl ?_
  exact g_iret (ty := .boolean) dX9_isButtress_13 rfl (by first | exact bI_nar _ | decide) ⟨Nat.zero_le _, Nat.zero_le _⟩ ⟨rfl, rfl⟩
set_option maxRecDepth 20000 in
theorem t_X9_hasFallen (l : Launch) (e : MR) (to : Nat → Int32) (S : ST) (x : Int32) : Fn l M_X9_hasFallen [.ref 0, .int x] (mw e to (pk S)) (some (.int (bI (hb (sfa S) x)))) (mw e to (pk S)) := by
  refine con_of rfl rfl (Nat.le_of_ble_eq_true rfl) ?_
  refine g_lsN (ls' := [_, _]) rfl ?_
  refine g_aload_n (n := 1) dX9_hasFallen_0 rfl rfl ?_
  refine g_get (n := 4) fl_X9_22 dX9_hasFallen_1 rfl rfl rfl ?_
  refine g_iconst (v := nI 2) (n := 5) dX9_hasFallen_4 (by decide) rfl ?_
  refine g_ialdN (n := 6) dX9_hasFallen_5 rfl rfl (by decide) (by omega) ?_
  refine g_top (sk_2 _) ?_
  refine g_iload_n (n := 7) dX9_hasFallen_6 rfl rfl ?_
  refine g_callSi (n := 10) cs_X9_94 (t_X9_has l _ _) dX9_hasFallen_7 rfl rfl ⟨by decide, by decide, rfl, rfl, Nat.zero_le _, Nat.zero_le _⟩ rfl (Nat.le_of_ble_eq_true rfl) rfl ?_
  exact g_iret (ty := .boolean) dX9_hasFallen_10 rfl (by first | exact bI_nar _ | decide) ⟨Nat.zero_le _, Nat.zero_le _⟩ ⟨rfl, rfl⟩
set_option maxRecDepth 20000 in
theorem t_X9_load (l : Launch) (e : MR) (V : WT) (S : ST) (hV : okV V) (b : Nat) (hbn : b < vnb V) : Fn l M_X9_load [.ref 0, .int (nI b)] (mw e (tk V) (pk S)) (some (.int (ldF V S b))) (mw e (tk V) (pk S)) := by
  refine con_of rfl rfl (Nat.le_of_ble_eq_true rfl) ?_
  refine g_lsN (ls' := [_, _, _, _]) rfl ?_
  obtain ⟨hV1, hV2, hV3⟩ := hV
  have J69 : G l M_X9_load ((mw e (tk V) (pk S)).length, 0, 0) (fun r u => r = some (.int (ldF V S b)) ∧ u = mw e (tk V) (pk S)) 69 [some (.ref 0), some (.int (nI b)), some (.int (if decide (0 < b) && hb (sfa S) (nI (b - 1)) then vth V (b - 1) / nI 2 else nI 0)), none] [.int (if decide (b + 1 < vnb V) && hb (sfa S) (nI (b + 1)) then vth V (b + 1) / nI 2 else nI 0)] (mw e (tk V) (pk S)) := by
    refine g_istore_n (n := 70) dX9_load_69 (by decide) rfl rfl ?_
    refine g_lsN (ls' := [_, _, _, _]) rfl ?_
    refine g_aload_n (n := 71) dX9_load_70 rfl rfl ?_
    refine g_get (n := 74) fl_X9_13 dX9_load_71 rfl rfl rfl ?_
    refine g_iconst (v := nI 4) (n := 75) dX9_load_74 (by decide) rfl ?_
    refine g_iload_n (n := 76) dX9_load_75 rfl rfl ?_
    refine g_iaddN (n := 77) dX9_load_76 rfl ?_
    refine g_ialdN (n := 78) dX9_load_77 rfl rfl (by decide) (by omega) ?_
    refine g_top (tk_th _ (by omega)) ?_
    refine g_iload_n (n := 79) dX9_load_78 rfl rfl ?_
    refine g_iadd (n := 80) dX9_load_79 rfl ?_
    refine g_iload_n (n := 81) dX9_load_80 rfl rfl ?_
    refine g_iadd (n := 82) dX9_load_81 rfl ?_
    exact g_iret (ty := .int) dX9_load_82 rfl rfl ⟨Nat.zero_le _, Nat.zero_le _⟩ ⟨rfl, rfl⟩
  have J30 : G l M_X9_load ((mw e (tk V) (pk S)).length, 0, 0) (fun r u => r = some (.int (ldF V S b)) ∧ u = mw e (tk V) (pk S)) 30 [some (.ref 0), some (.int (nI b)), none, none] [.int (if decide (0 < b) && hb (sfa S) (nI (b - 1)) then vth V (b - 1) / nI 2 else nI 0)] (mw e (tk V) (pk S)) := by
    refine g_istore_n (n := 31) dX9_load_30 (by decide) rfl rfl ?_
    refine g_lsN (ls' := [_, _, _, _]) rfl ?_
    refine g_iload_n (n := 32) dX9_load_31 rfl rfl ?_
    refine g_aload_n (n := 33) dX9_load_32 rfl rfl ?_
    refine g_get (n := 36) fl_X9_13 dX9_load_33 rfl rfl rfl ?_
    refine g_iconst (v := nI 0) (n := 37) dX9_load_36 (by decide) rfl ?_
    refine g_ialdN (n := 38) dX9_load_37 rfl rfl (by decide) (by omega) ?_
    refine g_top (tk_0 _) ?_
    refine g_iconst (v := nI 1) (n := 39) dX9_load_38 (by decide) rfl ?_
    refine g_isubN (n := 40) dX9_load_39 rfl (by omega) ?_
    refine g_icmp_ge (tgt := 68) (n := 43) dX9_load_40 (by decide) rfl (fun c40 => ?_) (fun c40 => ?_)
    ·
      have hc : ¬ b + 1 < vnb V := fun q => nI_ge (show b < vnb V - 1 by omega) (by omega) c40
      rw [decide_eq_false hc, Bool.false_and, if_neg Bool.false_ne_true] at J69
      refine g_iconst (v := nI 0) (n := 69) dX9_load_68 (by decide) rfl ?_
      exact J69
    ·
      have hc : b + 1 < vnb V := by
        rcases Nat.lt_or_ge (b + 1) (vnb V) with q | q
        · exact q
        · exact absurd (nI_le (by omega) (by omega)) c40
      rw [decide_eq_true hc, Bool.true_and] at J69
      refine g_aload_n (n := 44) dX9_load_43 rfl rfl ?_
      refine g_iload_n (n := 45) dX9_load_44 rfl rfl ?_
      refine g_iconst (v := nI 1) (n := 46) dX9_load_45 (by decide) rfl ?_
      refine g_iaddN (n := 47) dX9_load_46 rfl ?_
      refine g_callWi (n := 50) cv_X9_98 (t_X9_hasFallen l _ _ _ _) dX9_load_47 rfl ⟨by decide, by decide, rfl, rfl, Nat.zero_le _, Nat.zero_le _⟩ rfl rfl rfl (Nat.le_of_ble_eq_true rfl) rfl rfl ?_
      refine g_if_eq (tgt := 68) (n := 53) dX9_load_50 (by decide) rfl (fun c50 => ?_) (fun c50 => ?_)
      ·
        rw [bI_0.mp c50, if_neg Bool.false_ne_true] at J69
        refine g_iconst (v := nI 0) (n := 69) dX9_load_68 (by decide) rfl ?_
        exact J69
      ·
        rw [bI_n0.mp c50, if_pos rfl] at J69
        refine g_aload_n (n := 54) dX9_load_53 rfl rfl ?_
        refine g_get (n := 57) fl_X9_13 dX9_load_54 rfl rfl rfl ?_
        refine g_iconst (v := nI 4) (n := 58) dX9_load_57 (by decide) rfl ?_
        refine g_iload_n (n := 59) dX9_load_58 rfl rfl ?_
        refine g_iaddN (n := 60) dX9_load_59 rfl ?_
        refine g_iconst (v := nI 1) (n := 61) dX9_load_60 (by decide) rfl ?_
        refine g_iaddN (n := 62) dX9_load_61 rfl ?_
        refine g_ialdN (n := 63) dX9_load_62 rfl rfl (by decide) (by omega) ?_
        refine g_top (y := vth V (b + 1)) (by rw [show 4 + b + 1 = 4 + (b + 1) by omega]; exact tk_th V (by omega)) ?_
        refine g_iconst (v := nI 2) (n := 64) dX9_load_63 (by decide) rfl ?_
        refine g_idiv (n := 65) dX9_load_64 (by decide) rfl ?_
        refine g_goto (tgt := 69) dX9_load_65 (by decide) ?_
        exact J69
  refine g_iload_n (n := 1) dX9_load_0 rfl rfl ?_
  refine g_if_le (tgt := 29) (n := 4) dX9_load_1 (by decide) rfl (fun c1 => ?_) (fun c1 => ?_)
  ·
    have hc : ¬ 0 < b := fun q => nI_nle q (by omega) c1
    rw [decide_eq_false hc, Bool.false_and, if_neg Bool.false_ne_true] at J30
    refine g_iconst (v := nI 0) (n := 30) dX9_load_29 (by decide) rfl ?_
    exact J30
  ·
    have hc : 0 < b := by
      rcases Nat.eq_zero_or_pos b with q | q
      · subst q; exact absurd (by decide) c1
      · exact q
    rw [decide_eq_true hc, Bool.true_and] at J30
    refine g_aload_n (n := 5) dX9_load_4 rfl rfl ?_
    refine g_iload_n (n := 6) dX9_load_5 rfl rfl ?_
    refine g_iconst (v := nI 1) (n := 7) dX9_load_6 (by decide) rfl ?_
    refine g_isubN (n := 8) dX9_load_7 rfl (by omega) ?_
    refine g_callWi (n := 11) cv_X9_98 (t_X9_hasFallen l _ _ _ _) dX9_load_8 rfl ⟨by decide, by decide, rfl, rfl, Nat.zero_le _, Nat.zero_le _⟩ rfl rfl rfl (Nat.le_of_ble_eq_true rfl) rfl rfl ?_
    refine g_if_eq (tgt := 29) (n := 14) dX9_load_11 (by decide) rfl (fun c11 => ?_) (fun c11 => ?_)
    ·
      rw [bI_0.mp c11, if_neg Bool.false_ne_true] at J30
      refine g_iconst (v := nI 0) (n := 30) dX9_load_29 (by decide) rfl ?_
      exact J30
    ·
      rw [bI_n0.mp c11, if_pos rfl] at J30
      refine g_aload_n (n := 15) dX9_load_14 rfl rfl ?_
      refine g_get (n := 18) fl_X9_13 dX9_load_15 rfl rfl rfl ?_
      refine g_iconst (v := nI 4) (n := 19) dX9_load_18 (by decide) rfl ?_
      refine g_iload_n (n := 20) dX9_load_19 rfl rfl ?_
      refine g_iaddN (n := 21) dX9_load_20 rfl ?_
      refine g_iconst (v := nI 1) (n := 22) dX9_load_21 (by decide) rfl ?_
      refine g_isubN (n := 23) dX9_load_22 rfl (by omega) ?_
      refine g_ialdN (n := 24) dX9_load_23 rfl rfl (by decide) (by omega) ?_
      refine g_top (y := vth V (b - 1)) (by rw [show 4 + b - 1 = 4 + (b - 1) by omega]; exact tk_th V (by omega)) ?_
      refine g_iconst (v := nI 2) (n := 25) dX9_load_24 (by decide) rfl ?_
      refine g_idiv (n := 26) dX9_load_25 (by decide) rfl ?_
      refine g_goto (tgt := 30) dX9_load_26 (by decide) ?_
      exact J30
set_option maxRecDepth 20000 in
theorem lp_X9_strengths (l : Launch) (z : Nat × Nat × Nat) (hz : z.2.1 ≤ 0 ∧ z.2.2 ≤ 0) (Q : Option Value → List va_E → Prop) (e : MR) (V : WT) (S : ST) (hV : okV V) (b : Nat) (hQ : Q (some (.int (srF V S b))) (mw e (tk V) (pk S))) : ∀ f, f ≤ vnf V → G l M_X9_strengths z Q 4 [some (.ref 0), some (.int (nI b)), some (.int (srN V S b f)), some (.int (nI f))] [] (mw e (tk V) (pk S)) := by
  have hV1 := hV.1
  have hV2 := hV.2.1
  have hV3 := hV.2.2
  refine loopN (vnf V) ?_ (fun f hf ih => ?_)
  ·
    refine g_iload_n (n := 5) dX9_strengths_4 rfl rfl ?_
    refine g_aload_n (n := 6) dX9_strengths_5 rfl rfl ?_
    refine g_get (n := 9) fl_X9_13 dX9_strengths_6 rfl rfl rfl ?_
    refine g_iconst (v := nI 1) (n := 10) dX9_strengths_9 (by decide) rfl ?_
    refine g_ialdN (n := 11) dX9_strengths_10 rfl rfl (by decide) (by omega) ?_
    refine g_top (tk_1 _) ?_
    refine g_icmp_ge (tgt := 62) (n := 14) dX9_strengths_11 (by decide) rfl (fun c11 => ?_) (fun c11 => absurd (nI_le (Nat.le_refl _) (by omega)) c11)
    refine g_iload_n (n := 63) dX9_strengths_62 rfl rfl ?_
    exact g_iret (ty := .int) dX9_strengths_63 rfl rfl hz hQ
  ·
    refine g_iload_n (n := 5) dX9_strengths_4 rfl rfl ?_
    refine g_aload_n (n := 6) dX9_strengths_5 rfl rfl ?_
    refine g_get (n := 9) fl_X9_13 dX9_strengths_6 rfl rfl rfl ?_
    refine g_iconst (v := nI 1) (n := 10) dX9_strengths_9 (by decide) rfl ?_
    refine g_ialdN (n := 11) dX9_strengths_10 rfl rfl (by decide) (by omega) ?_
    refine g_top (tk_1 _) ?_
    refine g_icmp_ge (tgt := 62) (n := 14) dX9_strengths_11 (by decide) rfl (fun c11 => absurd c11 (nI_ge hf (by omega))) (fun c11 => ?_)
    refine g_iload_n (n := 15) dX9_strengths_14 rfl rfl ?_
    refine g_aload_n (n := 16) dX9_strengths_15 rfl rfl ?_
    refine g_get (n := 19) fl_X9_22 dX9_strengths_16 rfl rfl rfl ?_
    refine g_iconst (v := nI 1) (n := 20) dX9_strengths_19 (by decide) rfl ?_
    refine g_ialdN (n := 21) dX9_strengths_20 rfl rfl (by decide) (by omega) ?_
    refine g_top (sk_1 _) ?_
    refine g_iload_n (n := 22) dX9_strengths_21 rfl rfl ?_
    refine g_callSi (n := 25) cs_X9_94 (t_X9_has l _ _) dX9_strengths_22 rfl rfl ⟨by decide, by decide, rfl, rfl, hz.1, hz.2⟩ rfl (Nat.le_of_ble_eq_true rfl) rfl ?_
    refine g_if_eq (tgt := 53) (n := 28) dX9_strengths_25 (by decide) rfl (fun c25 => ?_) (fun c25 => ?_)
    ·
      have e1 : srN V S b (f + 1) = srN V S b f + nI 0 := by rw [srN, bI_0.mp c25]; rfl
      rw [e1] at ih
      refine g_iconst (v := nI 0) (n := 54) dX9_strengths_53 (by decide) rfl ?_
      refine g_iadd (n := 55) dX9_strengths_54 rfl ?_
      refine g_istore_n (n := 56) dX9_strengths_55 (by decide) rfl rfl ?_
      refine g_lsN (ls' := [_, _, _, _]) rfl ?_
      refine g_iincN (k := 1) (n := 59) dX9_strengths_56 rfl (by decide) rfl rfl ?_
      refine g_lsN (ls' := [_, _, _, _]) rfl ?_
      refine g_goto (tgt := 4) dX9_strengths_59 (by decide) ?_
      exact ih
    ·
      refine g_aload_n (n := 29) dX9_strengths_28 rfl rfl ?_
      refine g_get (n := 32) fl_X9_22 dX9_strengths_29 rfl rfl rfl ?_
      refine g_bipush (v := nI 9) (n := 34) dX9_strengths_32 (by decide) rfl ?_
      refine g_iload_n (n := 35) dX9_strengths_34 rfl rfl ?_
      refine g_iaddN (n := 36) dX9_strengths_35 rfl ?_
      refine g_ialdN (n := 37) dX9_strengths_36 rfl rfl (by decide) (by omega) ?_
      refine g_top (sk_bo _ (by omega)) ?_
      refine g_iload_n (n := 38) dX9_strengths_37 rfl rfl ?_
      refine g_icmp_ne (tgt := 53) (n := 41) dX9_strengths_38 (by decide) rfl (fun c38 => ?_) (fun c38 => ?_)
      ·
        have e1 : srN V S b (f + 1) = srN V S b f + nI 0 := by rw [srN, bI_n0.mp c25, decide_eq_false c38]; rfl
        rw [e1] at ih
        refine g_iconst (v := nI 0) (n := 54) dX9_strengths_53 (by decide) rfl ?_
        refine g_iadd (n := 55) dX9_strengths_54 rfl ?_
        refine g_istore_n (n := 56) dX9_strengths_55 (by decide) rfl rfl ?_
        refine g_lsN (ls' := [_, _, _, _]) rfl ?_
        refine g_iincN (k := 1) (n := 59) dX9_strengths_56 rfl (by decide) rfl rfl ?_
        refine g_lsN (ls' := [_, _, _, _]) rfl ?_
        refine g_goto (tgt := 4) dX9_strengths_59 (by decide) ?_
        exact ih
      ·
        have e1 : srN V S b (f + 1) = srN V S b f + vsg V f := by rw [srN, bI_n0.mp c25, decide_eq_true c38]; rfl
        rw [e1] at ih
        refine g_aload_n (n := 42) dX9_strengths_41 rfl rfl ?_
        refine g_get (n := 45) fl_X9_13 dX9_strengths_42 rfl rfl rfl ?_
        refine g_bipush (v := nI 26) (n := 47) dX9_strengths_45 (by decide) rfl ?_
        refine g_iload_n (n := 48) dX9_strengths_47 rfl rfl ?_
        refine g_iaddN (n := 49) dX9_strengths_48 rfl ?_
        refine g_ialdN (n := 50) dX9_strengths_49 rfl rfl (by decide) (by omega) ?_
        refine g_top (tk_sg _ (by omega)) ?_
        refine g_goto (tgt := 54) dX9_strengths_50 (by decide) ?_
        refine g_iadd (n := 55) dX9_strengths_54 rfl ?_
        refine g_istore_n (n := 56) dX9_strengths_55 (by decide) rfl rfl ?_
        refine g_lsN (ls' := [_, _, _, _]) rfl ?_
        refine g_iincN (k := 1) (n := 59) dX9_strengths_56 rfl (by decide) rfl rfl ?_
        refine g_lsN (ls' := [_, _, _, _]) rfl ?_
        refine g_goto (tgt := 4) dX9_strengths_59 (by decide) ?_
        exact ih
set_option maxRecDepth 20000 in
theorem t_X9_strengths (l : Launch) (e : MR) (V : WT) (S : ST) (hV : okV V) (b : Nat) : Fn l M_X9_strengths [.ref 0, .int (nI b)] (mw e (tk V) (pk S)) (some (.int (srF V S b))) (mw e (tk V) (pk S)) := by
  refine con_of rfl rfl (Nat.le_of_ble_eq_true rfl) ?_
  refine g_lsN (ls' := [_, _, _, _]) rfl ?_
  refine g_iconst (v := nI 0) (n := 1) dX9_strengths_0 (by decide) rfl ?_
  refine g_istore_n (n := 2) dX9_strengths_1 (by decide) rfl rfl ?_
  refine g_lsN (ls' := [_, _, _, _]) rfl ?_
  refine g_iconst (v := nI 0) (n := 3) dX9_strengths_2 (by decide) rfl ?_
  refine g_istore_n (n := 4) dX9_strengths_3 (by decide) rfl rfl ?_
  refine g_lsN (ls' := [_, _, _, _]) rfl ?_
  exact lp_X9_strengths l _ ⟨Nat.zero_le _, Nat.zero_le _⟩ _ e V S hV b ⟨rfl, rfl⟩ 0 (Nat.zero_le _)
set_option maxRecDepth 20000 in
theorem t_X9_helps (l : Launch) (e : MR) (V : WT) (S : ST) (hV : okV V) (x : Int32) : Fn l M_X9_helps [.ref 0, .int x] (mw e (tk V) (pk S)) (some (.int (hpI V S x))) (mw e (tk V) (pk S)) := by
  have hV1 := hV.1
  refine con_of rfl rfl (Nat.le_of_ble_eq_true rfl) ?_
  refine g_lsN (ls' := [_, _, _]) rfl ?_
  refine g_aload_n (n := 1) dX9_helps_0 rfl rfl ?_
  refine g_iload_n (n := 2) dX9_helps_1 rfl rfl ?_
  refine g_callWi (n := 5) cv_X9_101 (t_X9_isBay l _ _ _ _) dX9_helps_2 rfl ⟨by decide, by decide, rfl, rfl, Nat.zero_le _, Nat.zero_le _⟩ rfl rfl rfl (Nat.le_of_ble_eq_true rfl) rfl rfl ?_
  refine g_if_eq (tgt := 16) (n := 8) dX9_helps_5 (by decide) rfl (fun c5 => ?_) (fun c5 => ?_)
  ·
    have e1 : hpI V S x = nI 0 := by unfold hpI; rw [bI_0.mp c5]; rfl
    refine g_iconst (v := nI 0) (n := 17) dX9_helps_16 (by decide) rfl ?_
    exact g_iret (ty := .int) dX9_helps_17 rfl rfl ⟨Nat.zero_le _, Nat.zero_le _⟩ ⟨by rw [e1], rfl⟩
  ·
    obtain ⟨b, hbn, hxb⟩ := isB_t (by omega) (bI_n0.mp c5)
    subst hxb
    have e0 : hpI V S (nI b) = hpF V S b := by unfold hpI; rw [bI_n0.mp c5, if_pos rfl, nI_clamp (by omega)]
    refine g_aload_n (n := 9) dX9_helps_8 rfl rfl ?_
    refine g_iload_n (n := 10) dX9_helps_9 rfl rfl ?_
    refine g_callWi (n := 13) cv_X9_98 (t_X9_hasFallen l _ _ _ _) dX9_helps_10 rfl ⟨by decide, by decide, rfl, rfl, Nat.zero_le _, Nat.zero_le _⟩ rfl rfl rfl (Nat.le_of_ble_eq_true rfl) rfl rfl ?_
    refine g_if_eq (tgt := 18) (n := 16) dX9_helps_13 (by decide) rfl (fun c13 => ?_) (fun c13 => ?_)
    ·
      have e2 : hb (sfa S) (nI b) = false := bI_0.mp c13
      refine g_aload_n (n := 19) dX9_helps_18 rfl rfl ?_
      refine g_iload_n (n := 20) dX9_helps_19 rfl rfl ?_
      refine g_callWi (n := 23) cv_X9_104 (t_X9_strengths l _ _ _ hV b) dX9_helps_20 rfl ⟨by decide, by decide, rfl, rfl, Nat.zero_le _, Nat.zero_le _⟩ rfl rfl rfl (Nat.le_of_ble_eq_true rfl) rfl rfl ?_
      refine g_aload_n (n := 24) dX9_helps_23 rfl rfl ?_
      refine g_iload_n (n := 25) dX9_helps_24 rfl rfl ?_
      refine g_callWi (n := 28) cv_X9_107 (t_X9_load l _ _ _ hV b hbn) dX9_helps_25 rfl ⟨by decide, by decide, rfl, rfl, Nat.zero_le _, Nat.zero_le _⟩ rfl rfl rfl (Nat.le_of_ble_eq_true rfl) rfl rfl ?_
      refine g_isub (n := 29) dX9_helps_28 rfl ?_
      refine g_istore_n (n := 30) dX9_helps_29 (by decide) rfl rfl ?_
      refine g_lsN (ls' := [_, _, _]) rfl ?_
      refine g_iload_n (n := 31) dX9_helps_30 rfl rfl ?_
      refine g_if_le (tgt := 40) (n := 34) dX9_helps_31 (by decide) rfl (fun c31 => ?_) (fun c31 => ?_)
      ·
        have e1 : hpI V S (nI b) = nI 0 := by rw [e0]; unfold hpF; rw [e2, if_neg Bool.false_ne_true, if_pos c31]
        refine g_iconst (v := nI 0) (n := 41) dX9_helps_40 (by decide) rfl ?_
        exact g_iret (ty := .int) dX9_helps_41 rfl rfl ⟨Nat.zero_le _, Nat.zero_le _⟩ ⟨by rw [e1], rfl⟩
      ·
        have e1 : hpI V S (nI b) = (srF V S b - ldF V S b) / nI 2 := by rw [e0]; unfold hpF; rw [e2, if_neg Bool.false_ne_true, if_neg c31]
        refine g_iload_n (n := 35) dX9_helps_34 rfl rfl ?_
        refine g_iconst (v := nI 2) (n := 36) dX9_helps_35 (by decide) rfl ?_
        refine g_idiv (n := 37) dX9_helps_36 (by decide) rfl ?_
        refine g_goto (tgt := 41) dX9_helps_37 (by decide) ?_
        exact g_iret (ty := .int) dX9_helps_41 rfl rfl ⟨Nat.zero_le _, Nat.zero_le _⟩ ⟨by rw [e1], rfl⟩
    ·
      have e1 : hpI V S (nI b) = nI 0 := by rw [e0]; unfold hpF; rw [bI_n0.mp c13]; rfl
      refine g_iconst (v := nI 0) (n := 17) dX9_helps_16 (by decide) rfl ?_
      exact g_iret (ty := .int) dX9_helps_17 rfl rfl ⟨Nat.zero_le _, Nat.zero_le _⟩ ⟨by rw [e1], rfl⟩
set_option maxRecDepth 20000 in
theorem t_X9_props (l : Launch) (e : MR) (V : WT) (S : ST) (hV : okV V) (b : Nat) (hbn : b < vnb V) : Fn l M_X9_props [.ref 0, .int (nI b)] (mw e (tk V) (pk S)) (some (.int (prF V S b))) (mw e (tk V) (pk S)) := by
  refine con_of rfl rfl (Nat.le_of_ble_eq_true rfl) ?_
  refine g_lsN (ls' := [_, _]) rfl ?_
  refine g_aload_n (n := 1) dX9_props_0 rfl rfl ?_
  refine g_iload_n (n := 2) dX9_props_1 rfl rfl ?_
  refine g_callWi (n := 5) cv_X9_104 (t_X9_strengths l _ _ _ hV b) dX9_props_2 rfl ⟨by decide, by decide, rfl, rfl, Nat.zero_le _, Nat.zero_le _⟩ rfl rfl rfl (Nat.le_of_ble_eq_true rfl) rfl rfl ?_
  refine g_aload_n (n := 6) dX9_props_5 rfl rfl ?_
  refine g_iload_n (n := 7) dX9_props_6 rfl rfl ?_
  refine g_iconst (v := nI 1) (n := 8) dX9_props_7 (by decide) rfl ?_
  refine g_isub (n := 9) dX9_props_8 rfl ?_
  refine g_callWi (n := 12) cv_X9_110 (t_X9_helps l _ _ _ hV _) dX9_props_9 rfl ⟨by decide, by decide, rfl, rfl, Nat.zero_le _, Nat.zero_le _⟩ rfl rfl rfl (Nat.le_of_ble_eq_true rfl) rfl rfl ?_
  refine g_iadd (n := 13) dX9_props_12 rfl ?_
  refine g_aload_n (n := 14) dX9_props_13 rfl rfl ?_
  refine g_iload_n (n := 15) dX9_props_14 rfl rfl ?_
  refine g_iconst (v := nI 1) (n := 16) dX9_props_15 (by decide) rfl ?_
  refine g_iaddN (n := 17) dX9_props_16 rfl ?_
  refine g_callWi (n := 20) cv_X9_110 (t_X9_helps l _ _ _ hV _) dX9_props_17 rfl ⟨by decide, by decide, rfl, rfl, Nat.zero_le _, Nat.zero_le _⟩ rfl rfl rfl (Nat.le_of_ble_eq_true rfl) rfl rfl ?_
  refine g_iadd (n := 21) dX9_props_20 rfl ?_
  exact g_iret (ty := .int) dX9_props_21 rfl rfl ⟨Nat.zero_le _, Nat.zero_le _⟩ ⟨rfl, rfl⟩
set_option maxRecDepth 20000 in
theorem t_X9_isHeld (l : Launch) (e : MR) (V : WT) (S : ST) (hV : okV V) (b : Nat) (hbn : b < vnb V) : Fn l M_X9_isHeld [.ref 0, .int (nI b)] (mw e (tk V) (pk S)) (some (.int (bI (isH V S b)))) (mw e (tk V) (pk S)) := by
  refine con_of rfl rfl (Nat.le_of_ble_eq_true rfl) ?_
  refine g_lsN (ls' := [_, _]) rfl ?_
  refine g_aload_n (n := 1) dX9_isHeld_0 rfl rfl ?_
  refine g_iload_n (n := 2) dX9_isHeld_1 rfl rfl ?_
  refine g_callWi (n := 5) cv_X9_98 (t_X9_hasFallen l _ _ _ _) dX9_isHeld_2 rfl ⟨by decide, by decide, rfl, rfl, Nat.zero_le _, Nat.zero_le _⟩ rfl rfl rfl (Nat.le_of_ble_eq_true rfl) rfl rfl ?_
  refine g_if_ne (tgt := 25) (n := 8) dX9_isHeld_5 (by decide) rfl (fun c5 => ?_) (fun c5 => ?_)
  ·
    refine g_iconst (v := nI 0) (n := 26) dX9_isHeld_25 (by decide) rfl ?_
    exact g_iret (ty := .boolean) dX9_isHeld_26 rfl (by first | exact bI_nar _ | decide) ⟨Nat.zero_le _, Nat.zero_le _⟩ ⟨by first | exact okT (by unfold isH; simp_all [bI_0, bI_n0]) | exact okF (by unfold isH; simp_all [bI_0, bI_n0]), rfl⟩
  ·
    refine g_aload_n (n := 9) dX9_isHeld_8 rfl rfl ?_
    refine g_iload_n (n := 10) dX9_isHeld_9 rfl rfl ?_
    refine g_callWi (n := 13) cv_X9_113 (t_X9_props l _ _ _ hV b hbn) dX9_isHeld_10 rfl ⟨by decide, by decide, rfl, rfl, Nat.zero_le _, Nat.zero_le _⟩ rfl rfl rfl (Nat.le_of_ble_eq_true rfl) rfl rfl ?_
    refine g_aload_n (n := 14) dX9_isHeld_13 rfl rfl ?_
    refine g_iload_n (n := 15) dX9_isHeld_14 rfl rfl ?_
    refine g_callWi (n := 18) cv_X9_107 (t_X9_load l _ _ _ hV b hbn) dX9_isHeld_15 rfl ⟨by decide, by decide, rfl, rfl, Nat.zero_le _, Nat.zero_le _⟩ rfl rfl rfl (Nat.le_of_ble_eq_true rfl) rfl rfl ?_
    refine g_icmp_lt (tgt := 25) (n := 21) dX9_isHeld_18 (by decide) rfl (fun c18 => ?_) (fun c18 => ?_)
    ·
      refine g_iconst (v := nI 0) (n := 26) dX9_isHeld_25 (by decide) rfl ?_
      exact g_iret (ty := .boolean) dX9_isHeld_26 rfl (by first | exact bI_nar _ | decide) ⟨Nat.zero_le _, Nat.zero_le _⟩ ⟨by first | exact okT (by unfold isH; simp_all [bI_0, bI_n0]) | exact okF (by unfold isH; simp_all [bI_0, bI_n0]), rfl⟩
    ·
      refine g_iconst (v := nI 1) (n := 22) dX9_isHeld_21 (by decide) rfl ?_
      refine g_goto (tgt := 26) dX9_isHeld_22 (by decide) ?_
      exact g_iret (ty := .boolean) dX9_isHeld_26 rfl (by first | exact bI_nar _ | decide) ⟨Nat.zero_le _, Nat.zero_le _⟩ ⟨by first | exact okT (by unfold isH; simp_all [bI_0, bI_n0]) | exact okF (by unfold isH; simp_all [bI_0, bI_n0]), rfl⟩
end
section
/-! 13.mpass: an hour of the reference -/
def caF (V : WT) (h : Int32) : Bool := decide (0 < vnc V) && hb (vca V) (h - h / nI (vnc V) * nI (vnc V))
def alN (V : WT) (S : ST) (f : Nat) : Nat → Bool
  | 0 => true
  | g + 1 => alN V S f g && (decide (g = f) || !hb (sup S) (nI g) || !inB (sbo S g - sbo S f) (-1) (nI 1))
def alF (V : WT) (S : ST) (f : Nat) : Bool := alN V S f (vnf V)
def hrd (V : WT) (S : ST) (f : Nat) : Bool := decide (vki V f = nI 2) || (decide (vki V f = nI 1) && alF V S f)
def twN (V : WT) (S : ST) : Nat → Int32
  | 0 => nI 0
  | f + 1 => twN V S f ||| (if hrd V S f then nI 1 <<< (nI f &&& 31) else nI 0)
def rsF (V : WT) (S : ST) (f : Nat) : Int32 := sti S f - (if vki V f = nI 2 then nI 1 else nI 2)
def moF (V : WT) (S : ST) (f : Nat) : Int32 := sti S f + (if hb (twN V S (vnf V)) (nI f) then nI 2 else nI 1)
def tiF (V : WT) (S : ST) (f : Nat) : Int32 := if hb (sup S) (nI f) then (if moF V S f ≤ nI 99 then moF V S f else nI 99) else (if 0 ≤ rsF V S f then rsF V S f else nI 0)
def mix (a b : Nat → Int32) (k : Nat) : Nat → Int32 := fun f => if f < k then a f else b f
theorem mix_0 (a b : Nat → Int32) : mix a b 0 = b := by funext f; simp [mix]
theorem mix_at (a b : Nat → Int32) (k : Nat) : mix a b k k = b k := by simp [mix]
theorem mix_s (a b : Nat → Int32) (k : Nat) : upd (mix a b k) k (a k) = mix a b (k + 1) := by
  funext f
  unfold upd mix
  by_cases h : f = k
  · subst h; simp
  · by_cases h2 : f < k
    · simp [h, h2, Nat.lt_succ_of_lt h2]
    · have h3 : ¬ f < k + 1 := by omega
      simp [h, h2, h3]
theorem mix_e {a b : Nat → Int32} {k : Nat} (h : a k = b k) : mix a b (k + 1) = mix a b k := by
  funext f
  unfold mix
  by_cases h1 : f = k
  · subst h1; simp [h]
  · by_cases h2 : f < k
    · simp [h2, Nat.lt_succ_of_lt h2]
    · have h3 : ¬ f < k + 1 := by omega
      simp [h2, h3]
def unF (V : WT) (S : ST) (b : Nat) : Int32 := if hb (sfa S) (nI b) then sun S b else if hb (hdN V S (vnb V)) (nI b) then nI 0 else sun S b + nI 1
def flN (V : WT) (S : ST) : Nat → Int32
  | 0 => nI 0
  | b + 1 => if hb (sfa S) (nI b) then flN V S b else flN V S b ||| (if unF V S b ≤ vpa V b then nI 0 else nI 1 <<< (nI b &&& 31))
def fa2 (V : WT) (S : ST) : Int32 := sfa S ||| flN V S (vnb V)
def ti2 (V : WT) (S : ST) : Nat → Int32 := mix (tiF V S) (sti S) (vnf V)
def un2 (V : WT) (S : ST) : Nat → Int32 := mix (unF V S) (sun S) (vnb V)
def trd (V : WT) (S : ST) (f : Nat) : Bool := !decide (tiF V S f ≤ vkn V f) && (!decide (vki V f = nI 3) || !caF V (sho S))
def upN (V : WT) (S : ST) : Nat → Int32
  | 0 => sup S
  | f + 1 => upN V S f &&& (if trd V S f || hb (fa2 V S) (sbo S f) then (nI 1 <<< (nI f &&& 31)) ^^^ (-1) else (-1))
/-- an hour goes by -/
def psF (V : WT) (S : ST) : ST := (sho S + nI 1, upN V S (vnf V), fa2 V S, ti2 V S, sbo S, un2 V S)

set_option maxRecDepth 20000 in
theorem lp_X9_heldNow (l : Launch) (z : Nat × Nat × Nat) (hz : z.2.1 ≤ 0 ∧ z.2.2 ≤ 0) (Q : Option Value → List va_E → Prop) (e : MR) (V : WT) (S : ST) (hV : okV V) (hQ : Q (some (.int (hdN V S (vnb V)))) (mw e (tk V) (pk S))) : ∀ b, b ≤ vnb V → G l M_X9_heldNow z Q 4 [some (.ref 0), some (.int (hdN V S b)), some (.int (nI b))] [] (mw e (tk V) (pk S)) := by
  have hV1 := hV.1
  have hV2 := hV.2.1
  have hV3 := hV.2.2
  refine loopN (vnb V) ?_ (fun b hb ih => ?_)
  ·
    refine g_iload_n (n := 5) dX9_heldNow_4 rfl rfl ?_
    refine g_aload_n (n := 6) dX9_heldNow_5 rfl rfl ?_
    refine g_get (n := 9) fl_X9_13 dX9_heldNow_6 rfl rfl rfl ?_
    refine g_iconst (v := nI 0) (n := 10) dX9_heldNow_9 (by decide) rfl ?_
    refine g_ialdN (n := 11) dX9_heldNow_10 rfl rfl (by decide) (by omega) ?_
    refine g_top (tk_0 _) ?_
    refine g_icmp_ge (tgt := 38) (n := 14) dX9_heldNow_11 (by decide) rfl (fun c11 => ?_) (fun c11 => absurd (nI_le (Nat.le_refl _) (by omega)) c11)
    refine g_iload_n (n := 39) dX9_heldNow_38 rfl rfl ?_
    exact g_iret (ty := .int) dX9_heldNow_39 rfl rfl hz hQ
  ·
    refine g_iload_n (n := 5) dX9_heldNow_4 rfl rfl ?_
    refine g_aload_n (n := 6) dX9_heldNow_5 rfl rfl ?_
    refine g_get (n := 9) fl_X9_13 dX9_heldNow_6 rfl rfl rfl ?_
    refine g_iconst (v := nI 0) (n := 10) dX9_heldNow_9 (by decide) rfl ?_
    refine g_ialdN (n := 11) dX9_heldNow_10 rfl rfl (by decide) (by omega) ?_
    refine g_top (tk_0 _) ?_
    refine g_icmp_ge (tgt := 38) (n := 14) dX9_heldNow_11 (by decide) rfl (fun c11 => absurd c11 (nI_ge hb (by omega))) (fun c11 => ?_)
    refine g_iload_n (n := 15) dX9_heldNow_14 rfl rfl ?_
    refine g_aload_n (n := 16) dX9_heldNow_15 rfl rfl ?_
    refine g_iload_n (n := 17) dX9_heldNow_16 rfl rfl ?_
    refine g_callWi (n := 20) cv_X9_116 (t_X9_isHeld l _ _ _ hV b hb) dX9_heldNow_17 rfl ⟨by decide, by decide, rfl, rfl, hz.1, hz.2⟩ rfl rfl rfl (Nat.le_of_ble_eq_true rfl) rfl rfl ?_
    refine g_if_eq (tgt := 29) (n := 23) dX9_heldNow_20 (by decide) rfl (fun c20 => ?_) (fun c20 => ?_)
    ·
      have e1 : hdN V S (b + 1) = hdN V S b ||| nI 0 := by rw [hdN, bI_0.mp c20]; rfl
      rw [e1] at ih
      refine g_iconst (v := nI 0) (n := 30) dX9_heldNow_29 (by decide) rfl ?_
      refine g_ior (n := 31) dX9_heldNow_30 rfl ?_
      refine g_istore_n (n := 32) dX9_heldNow_31 (by decide) rfl rfl ?_
      refine g_lsN (ls' := [_, _, _]) rfl ?_
      refine g_iincN (k := 1) (n := 35) dX9_heldNow_32 rfl (by decide) rfl rfl ?_
      refine g_lsN (ls' := [_, _, _]) rfl ?_
      refine g_goto (tgt := 4) dX9_heldNow_35 (by decide) ?_
      exact ih
    ·
      have e1 : hdN V S (b + 1) = hdN V S b ||| nI 1 <<< (nI b &&& 31) := by rw [hdN, bI_n0.mp c20]; rfl
      rw [e1] at ih
      refine g_iconst (v := nI 1) (n := 24) dX9_heldNow_23 (by decide) rfl ?_
      refine g_iload_n (n := 25) dX9_heldNow_24 rfl rfl ?_
      refine g_ishl (n := 26) dX9_heldNow_25 rfl ?_
      refine g_goto (tgt := 30) dX9_heldNow_26 (by decide) ?_
      refine g_ior (n := 31) dX9_heldNow_30 rfl ?_
      refine g_istore_n (n := 32) dX9_heldNow_31 (by decide) rfl rfl ?_
      refine g_lsN (ls' := [_, _, _]) rfl ?_
      refine g_iincN (k := 1) (n := 35) dX9_heldNow_32 rfl (by decide) rfl rfl ?_
      refine g_lsN (ls' := [_, _, _]) rfl ?_
      refine g_goto (tgt := 4) dX9_heldNow_35 (by decide) ?_
      exact ih
set_option maxRecDepth 20000 in
theorem t_X9_heldNow (l : Launch) (e : MR) (V : WT) (S : ST) (hV : okV V) : Fn l M_X9_heldNow [.ref 0] (mw e (tk V) (pk S)) (some (.int (hdN V S (vnb V)))) (mw e (tk V) (pk S)) := by
  refine con_of rfl rfl (Nat.le_of_ble_eq_true rfl) ?_
  refine g_lsN (ls' := [_, _, _]) rfl ?_
  refine g_iconst (v := nI 0) (n := 1) dX9_heldNow_0 (by decide) rfl ?_
  refine g_istore_n (n := 2) dX9_heldNow_1 (by decide) rfl rfl ?_
  refine g_lsN (ls' := [_, _, _]) rfl ?_
  refine g_iconst (v := nI 0) (n := 3) dX9_heldNow_2 (by decide) rfl ?_
  refine g_istore_n (n := 4) dX9_heldNow_3 (by decide) rfl rfl ?_
  refine g_lsN (ls' := [_, _, _]) rfl ?_
  exact lp_X9_heldNow l _ ⟨Nat.zero_le _, Nat.zero_le _⟩ _ e V S hV ⟨rfl, rfl⟩ 0 (Nat.zero_le _)
set_option maxRecDepth 20000 in
theorem t_X9_areCarts (l : Launch) (e : MR) (V : WT) (s : Nat → Int32) (hV : okV V) (h : Int32) : Fn l M_X9_areCarts [.ref 0, .int h] (mw e (tk V) s) (some (.int (bI (caF V h)))) (mw e (tk V) s) := by
  have hV3 := hV.2.2
  refine con_of rfl rfl (Nat.le_of_ble_eq_true rfl) ?_
  refine g_lsN (ls' := [_, _]) rfl ?_
  refine g_aload_n (n := 1) dX9_areCarts_0 rfl rfl ?_
  refine g_get (n := 4) fl_X9_13 dX9_areCarts_1 rfl rfl rfl ?_
  refine g_iconst (v := nI 2) (n := 5) dX9_areCarts_4 (by decide) rfl ?_
  refine g_ialdN (n := 6) dX9_areCarts_5 rfl rfl (by decide) (by omega) ?_
  refine g_top (tk_2 _) ?_
  refine g_if_le (tgt := 33) (n := 9) dX9_areCarts_6 (by decide) rfl (fun c6 => ?_) (fun c6 => ?_)
  ·
    have hF : caF V h = false := by unfold caF; rw [decide_eq_false (fun q => nI_nle q (by omega) c6)]; rfl
    refine g_iconst (v := nI 0) (n := 34) dX9_areCarts_33 (by decide) rfl ?_
    exact g_iret (ty := .boolean) dX9_areCarts_34 rfl (by first | exact bI_nar _ | decide) ⟨Nat.zero_le _, Nat.zero_le _⟩ ⟨by first | exact okT hT | exact okF hF, rfl⟩
  ·
    have hc : 0 < vnc V := by
      rcases Nat.eq_zero_or_pos (vnc V) with q | q
      · exact absurd (by rw [q]; decide) c6
      · exact q
    refine g_aload_n (n := 10) dX9_areCarts_9 rfl rfl ?_
    refine g_get (n := 13) fl_X9_13 dX9_areCarts_10 rfl rfl rfl ?_
    refine g_iconst (v := nI 3) (n := 14) dX9_areCarts_13 (by decide) rfl ?_
    refine g_ialdN (n := 15) dX9_areCarts_14 rfl rfl (by decide) (by omega) ?_
    refine g_top (tk_3 _) ?_
    refine g_iload_n (n := 16) dX9_areCarts_15 rfl rfl ?_
    refine g_aload_n (n := 17) dX9_areCarts_16 rfl rfl ?_
    refine g_get (n := 20) fl_X9_13 dX9_areCarts_17 rfl rfl rfl ?_
    refine g_iconst (v := nI 2) (n := 21) dX9_areCarts_20 (by decide) rfl ?_
    refine g_ialdN (n := 22) dX9_areCarts_21 rfl rfl (by decide) (by omega) ?_
    refine g_top (tk_2 _) ?_
    refine g_irem (n := 23) dX9_areCarts_22 (nI_ne0 hc (by omega)) rfl ?_
    refine g_callSi (n := 26) cs_X9_94 (t_X9_has l _ _) dX9_areCarts_23 rfl rfl ⟨by decide, by decide, rfl, rfl, Nat.zero_le _, Nat.zero_le _⟩ rfl (Nat.le_of_ble_eq_true rfl) rfl ?_
    refine g_if_eq (tgt := 33) (n := 29) dX9_areCarts_26 (by decide) rfl (fun c26 => ?_) (fun c26 => ?_)
    ·
      have hF : caF V h = false := by unfold caF; rw [bI_0.mp c26, Bool.and_false]
      refine g_iconst (v := nI 0) (n := 34) dX9_areCarts_33 (by decide) rfl ?_
      exact g_iret (ty := .boolean) dX9_areCarts_34 rfl (by first | exact bI_nar _ | decide) ⟨Nat.zero_le _, Nat.zero_le _⟩ ⟨by first | exact okT hT | exact okF hF, rfl⟩
    ·
      have hT : caF V h = true := by unfold caF; rw [bI_n0.mp c26, decide_eq_true hc]; rfl
      refine g_iconst (v := nI 1) (n := 30) dX9_areCarts_29 (by decide) rfl ?_
      refine g_goto (tgt := 34) dX9_areCarts_30 (by decide) ?_
      exact g_iret (ty := .boolean) dX9_areCarts_34 rfl (by first | exact bI_nar _ | decide) ⟨Nat.zero_le _, Nat.zero_le _⟩ ⟨by first | exact okT hT | exact okF hF, rfl⟩
set_option maxRecDepth 20000 in
theorem lp_X9_isAlone (l : Launch) (z : Nat × Nat × Nat) (hz : z.2.1 ≤ 0 ∧ z.2.2 ≤ 0) (Q : Option Value → List va_E → Prop) (e : MR) (V : WT) (S : ST) (hV : okV V) (f : Nat) (hf : f < vnf V) (hQ : Q (some (.int (bI (alF V S f)))) (mw e (tk V) (pk S))) : ∀ g, g ≤ vnf V → G l M_X9_isAlone z Q 4 [some (.ref 0), some (.int (nI f)), some (.int (bI (alN V S f g))), some (.int (nI g))] [] (mw e (tk V) (pk S)) := by
  have hV1 := hV.1
  have hV2 := hV.2.1
  have hV3 := hV.2.2
  refine loopN (vnf V) ?_ (fun g hg ih => ?_)
  ·
    refine g_iload_n (n := 5) dX9_isAlone_4 rfl rfl ?_
    refine g_aload_n (n := 6) dX9_isAlone_5 rfl rfl ?_
    refine g_get (n := 9) fl_X9_13 dX9_isAlone_6 rfl rfl rfl ?_
    refine g_iconst (v := nI 1) (n := 10) dX9_isAlone_9 (by decide) rfl ?_
    refine g_ialdN (n := 11) dX9_isAlone_10 rfl rfl (by decide) (by omega) ?_
    refine g_top (tk_1 _) ?_
    refine g_icmp_ge (tgt := 75) (n := 14) dX9_isAlone_11 (by decide) rfl (fun c11 => ?_) (fun c11 => absurd (nI_le (Nat.le_refl _) (by omega)) c11)
    refine g_iload_n (n := 76) dX9_isAlone_75 rfl rfl ?_
    exact g_iret (ty := .boolean) dX9_isAlone_76 rfl (by first | exact bI_nar _ | decide) hz hQ
  ·
    refine g_iload_n (n := 5) dX9_isAlone_4 rfl rfl ?_
    refine g_aload_n (n := 6) dX9_isAlone_5 rfl rfl ?_
    refine g_get (n := 9) fl_X9_13 dX9_isAlone_6 rfl rfl rfl ?_
    refine g_iconst (v := nI 1) (n := 10) dX9_isAlone_9 (by decide) rfl ?_
    refine g_ialdN (n := 11) dX9_isAlone_10 rfl rfl (by decide) (by omega) ?_
    refine g_top (tk_1 _) ?_
    refine g_icmp_ge (tgt := 75) (n := 14) dX9_isAlone_11 (by decide) rfl (fun c11 => absurd c11 (nI_ge hg (by omega))) (fun c11 => ?_)
    refine g_iload_n (n := 15) dX9_isAlone_14 rfl rfl ?_
    refine g_if_eq (tgt := 67) (n := 18) dX9_isAlone_15 (by decide) rfl (fun c15 => ?_) (fun c15 => ?_)
    ·
      have e1 : bI (alN V S f (g + 1)) = nI 0 := by rw [alN, bI_0.mp c15]; rfl
      rw [e1] at ih
      refine g_iconst (v := nI 0) (n := 68) dX9_isAlone_67 (by decide) rfl ?_
      refine g_istore_n (n := 69) dX9_isAlone_68 (by decide) rfl rfl ?_
      refine g_lsN (ls' := [_, _, _, _]) rfl ?_
      refine g_iincN (k := 1) (n := 72) dX9_isAlone_69 rfl (by decide) rfl rfl ?_
      refine g_lsN (ls' := [_, _, _, _]) rfl ?_
      refine g_goto (tgt := 4) dX9_isAlone_72 (by decide) ?_
      exact ih
    ·
      have a1 := bI_n0.mp c15
      refine g_iload_n (n := 19) dX9_isAlone_18 rfl rfl ?_
      refine g_iload_n (n := 20) dX9_isAlone_19 rfl rfl ?_
      refine g_icmp_eq (tgt := 63) (n := 23) dX9_isAlone_20 (by decide) rfl (fun c20 => ?_) (fun c20 => ?_)
      ·
        have e1 : bI (alN V S f (g + 1)) = nI 1 := by rw [alN, a1, decide_eq_true ((nI_eq (by omega) (by omega)).mp c20)]; rfl
        rw [e1] at ih
        refine g_iconst (v := nI 1) (n := 64) dX9_isAlone_63 (by decide) rfl ?_
        refine g_goto (tgt := 68) dX9_isAlone_64 (by decide) ?_
        refine g_istore_n (n := 69) dX9_isAlone_68 (by decide) rfl rfl ?_
        refine g_lsN (ls' := [_, _, _, _]) rfl ?_
        refine g_iincN (k := 1) (n := 72) dX9_isAlone_69 rfl (by decide) rfl rfl ?_
        refine g_lsN (ls' := [_, _, _, _]) rfl ?_
        refine g_goto (tgt := 4) dX9_isAlone_72 (by decide) ?_
        exact ih
      ·
        have a2 : ¬ g = f := fun q => c20 (by rw [q])
        refine g_aload_n (n := 24) dX9_isAlone_23 rfl rfl ?_
        refine g_get (n := 27) fl_X9_22 dX9_isAlone_24 rfl rfl rfl ?_
        refine g_iconst (v := nI 1) (n := 28) dX9_isAlone_27 (by decide) rfl ?_
        refine g_ialdN (n := 29) dX9_isAlone_28 rfl rfl (by decide) (by omega) ?_
        refine g_top (sk_1 _) ?_
        refine g_iload_n (n := 30) dX9_isAlone_29 rfl rfl ?_
        refine g_callSi (n := 33) cs_X9_94 (t_X9_has l _ _) dX9_isAlone_30 rfl rfl ⟨by decide, by decide, rfl, rfl, hz.1, hz.2⟩ rfl (Nat.le_of_ble_eq_true rfl) rfl ?_
        refine g_if_eq (tgt := 63) (n := 36) dX9_isAlone_33 (by decide) rfl (fun c33 => ?_) (fun c33 => ?_)
        ·
          have e1 : bI (alN V S f (g + 1)) = nI 1 := by rw [alN, a1, decide_eq_false a2, bI_0.mp c33]; rfl
          rw [e1] at ih
          refine g_iconst (v := nI 1) (n := 64) dX9_isAlone_63 (by decide) rfl ?_
          refine g_goto (tgt := 68) dX9_isAlone_64 (by decide) ?_
          refine g_istore_n (n := 69) dX9_isAlone_68 (by decide) rfl rfl ?_
          refine g_lsN (ls' := [_, _, _, _]) rfl ?_
          refine g_iincN (k := 1) (n := 72) dX9_isAlone_69 rfl (by decide) rfl rfl ?_
          refine g_lsN (ls' := [_, _, _, _]) rfl ?_
          refine g_goto (tgt := 4) dX9_isAlone_72 (by decide) ?_
          exact ih
        ·
          have a3 := bI_n0.mp c33
          refine g_aload_n (n := 37) dX9_isAlone_36 rfl rfl ?_
          refine g_get (n := 40) fl_X9_22 dX9_isAlone_37 rfl rfl rfl ?_
          refine g_bipush (v := nI 9) (n := 42) dX9_isAlone_40 (by decide) rfl ?_
          refine g_iload_n (n := 43) dX9_isAlone_42 rfl rfl ?_
          refine g_iaddN (n := 44) dX9_isAlone_43 rfl ?_
          refine g_ialdN (n := 45) dX9_isAlone_44 rfl rfl (by decide) (by omega) ?_
          refine g_top (sk_bo _ (by omega)) ?_
          refine g_aload_n (n := 46) dX9_isAlone_45 rfl rfl ?_
          refine g_get (n := 49) fl_X9_22 dX9_isAlone_46 rfl rfl rfl ?_
          refine g_bipush (v := nI 9) (n := 51) dX9_isAlone_49 (by decide) rfl ?_
          refine g_iload_n (n := 52) dX9_isAlone_51 rfl rfl ?_
          refine g_iaddN (n := 53) dX9_isAlone_52 rfl ?_
          refine g_ialdN (n := 54) dX9_isAlone_53 rfl rfl (by decide) (by omega) ?_
          refine g_top (sk_bo _ (by omega)) ?_
          refine g_isub (n := 55) dX9_isAlone_54 rfl ?_
          refine g_iconst (v := (-1)) (n := 56) dX9_isAlone_55 (by decide) rfl ?_
          refine g_iconst (v := nI 1) (n := 57) dX9_isAlone_56 (by decide) rfl ?_
          refine g_callSi (n := 60) cs_X9_52 (t_X9_in l _ _ _) dX9_isAlone_57 rfl rfl ⟨by decide, by decide, rfl, rfl, hz.1, hz.2⟩ rfl (Nat.le_of_ble_eq_true rfl) rfl ?_
          refine g_if_ne (tgt := 67) (n := 63) dX9_isAlone_60 (by decide) rfl (fun c60 => ?_) (fun c60 => ?_)
          ·
            have e1 : bI (alN V S f (g + 1)) = nI 0 := by rw [alN, a1, decide_eq_false a2, a3, bI_n0.mp c60]; rfl
            rw [e1] at ih
            refine g_iconst (v := nI 0) (n := 68) dX9_isAlone_67 (by decide) rfl ?_
            refine g_istore_n (n := 69) dX9_isAlone_68 (by decide) rfl rfl ?_
            refine g_lsN (ls' := [_, _, _, _]) rfl ?_
            refine g_iincN (k := 1) (n := 72) dX9_isAlone_69 rfl (by decide) rfl rfl ?_
            refine g_lsN (ls' := [_, _, _, _]) rfl ?_
            refine g_goto (tgt := 4) dX9_isAlone_72 (by decide) ?_
            exact ih
          ·
            have e1 : bI (alN V S f (g + 1)) = nI 1 := by rw [alN, a1, decide_eq_false a2, a3, bI_0.mp c60]; rfl
            rw [e1] at ih
            refine g_iconst (v := nI 1) (n := 64) dX9_isAlone_63 (by decide) rfl ?_
            refine g_goto (tgt := 68) dX9_isAlone_64 (by decide) ?_
            refine g_istore_n (n := 69) dX9_isAlone_68 (by decide) rfl rfl ?_
            refine g_lsN (ls' := [_, _, _, _]) rfl ?_
            refine g_iincN (k := 1) (n := 72) dX9_isAlone_69 rfl (by decide) rfl rfl ?_
            refine g_lsN (ls' := [_, _, _, _]) rfl ?_
            refine g_goto (tgt := 4) dX9_isAlone_72 (by decide) ?_
            exact ih
set_option maxRecDepth 20000 in
theorem t_X9_isAlone (l : Launch) (e : MR) (V : WT) (S : ST) (hV : okV V) (f : Nat) (hf : f < vnf V) : Fn l M_X9_isAlone [.ref 0, .int (nI f)] (mw e (tk V) (pk S)) (some (.int (bI (alF V S f)))) (mw e (tk V) (pk S)) := by
  refine con_of rfl rfl (Nat.le_of_ble_eq_true rfl) ?_
  refine g_lsN (ls' := [_, _, _, _]) rfl ?_
  refine g_iconst (v := nI 1) (n := 1) dX9_isAlone_0 (by decide) rfl ?_
  refine g_istore_n (n := 2) dX9_isAlone_1 (by decide) rfl rfl ?_
  refine g_lsN (ls' := [_, _, _, _]) rfl ?_
  refine g_iconst (v := nI 0) (n := 3) dX9_isAlone_2 (by decide) rfl ?_
  refine g_istore_n (n := 4) dX9_isAlone_3 (by decide) rfl rfl ?_
  refine g_lsN (ls' := [_, _, _, _]) rfl ?_
  exact lp_X9_isAlone l _ ⟨Nat.zero_le _, Nat.zero_le _⟩ _ e V S hV f hf ⟨rfl, rfl⟩ 0 (Nat.zero_le _)
set_option maxRecDepth 20000 in
set_option maxHeartbeats 4000000 in
theorem lp4_X9_passes (l : Launch) (z : Nat × Nat × Nat) (hz : z.2.1 ≤ 0 ∧ z.2.2 ≤ 0) (Q : Option Value → List va_E → Prop) (e : MR) (V : WT) (S : ST) (hV : okV V) (hQ : Q none (mw e (tk V) (pk (psF V S)))) : ∀ f, f ≤ vnf V → ∀ (o5 : Option Value), G l M_X9_passes z Q 299 [some (.ref 0), some (.int (hdN V S (vnb V))), some (.int (twN V S (vnf V))), some (.int (flN V S (vnb V))), some (.int (nI f)), o5] [] (mw e (tk V) (pk (sho S, upN V S f, fa2 V S, ti2 V S, sbo S, un2 V S))) := by
  have hV1 := hV.1
  have hV2 := hV.2.1
  have hV3 := hV.2.2
  refine loopN (vnf V) ?_ (fun f hf ih => ?_)
  ·
    intro o5
    refine g_iload (n := 301) dX9_passes_299 rfl rfl ?_
    refine g_aload_n (n := 302) dX9_passes_301 rfl rfl ?_
    refine g_get (n := 305) fl_X9_13 dX9_passes_302 rfl rfl rfl ?_
    refine g_iconst (v := nI 1) (n := 306) dX9_passes_305 (by decide) rfl ?_
    refine g_ialdN (n := 307) dX9_passes_306 rfl rfl (by decide) (by omega) ?_
    refine g_top (tk_1 _) ?_
    refine g_icmp_ge (tgt := 413) (n := 310) dX9_passes_307 (by decide) rfl (fun c307 => ?_) (fun c307 => absurd (nI_le (Nat.le_refl _) (by omega)) c307)
    refine g_aload_n (n := 414) dX9_passes_413 rfl rfl ?_
    refine g_get (n := 417) fl_X9_22 dX9_passes_414 rfl rfl rfl ?_
    refine g_iconst (v := nI 0) (n := 418) dX9_passes_417 (by decide) rfl ?_
    refine g_dup2 (n := 419) dX9_passes_418 rfl rfl rfl ?_
    refine g_ialdN (n := 420) dX9_passes_419 rfl rfl (by decide) (by omega) ?_
    refine g_iconst (v := nI 1) (n := 421) dX9_passes_420 (by decide) rfl ?_
    refine g_iadd (n := 422) dX9_passes_421 rfl ?_
    refine g_iastN (n := 423) dX9_passes_422 rfl rfl (by decide) (by omega) ?_
    refine g_wN (w' := [_, _, _, _, _, _, _, _, _]) rfl ?_
    rw [sk_ho]
    exact g_vret dX9_passes_423 rfl hz hQ
  ·
    intro o5
    have J364 : ∀ (t : Bool), t = trd V S f → G l M_X9_passes z Q 364 [some (.ref 0), some (.int (hdN V S (vnb V))), some (.int (twN V S (vnf V))), some (.int (flN V S (vnb V))), some (.int (nI f)), o5] [.int (bI t)] (mw e (tk V) (pk (sho S, upN V S f, fa2 V S, ti2 V S, sbo S, un2 V S))) := by
      intro t ht
      refine g_istore (n := 366) dX9_passes_364 (by decide) rfl rfl ?_
      refine g_lsN (ls' := [_, _, _, _, _, _]) rfl ?_
      refine g_aload_n (n := 367) dX9_passes_366 rfl rfl ?_
      refine g_get (n := 370) fl_X9_22 dX9_passes_367 rfl rfl rfl ?_
      refine g_iconst (v := nI 1) (n := 371) dX9_passes_370 (by decide) rfl ?_
      refine g_dup2 (n := 372) dX9_passes_371 rfl rfl rfl ?_
      refine g_ialdN (n := 373) dX9_passes_372 rfl rfl (by decide) (by omega) ?_
      refine g_iload (n := 375) dX9_passes_373 rfl rfl ?_
      refine g_if_ne (tgt := 395) (n := 378) dX9_passes_375 (by decide) rfl (fun c375 => ?_) (fun c375 => ?_)
      ·
        have e1 : upN V S (f + 1) = upN V S f &&& ((nI 1 <<< (nI f &&& 31)) ^^^ (-1)) := by rw [upN, ← ht, bI_n0.mp c375]; rfl
        rw [e1] at ih
        refine g_iconst (v := nI 1) (n := 396) dX9_passes_395 (by decide) rfl ?_
        refine g_iload (n := 398) dX9_passes_396 rfl rfl ?_
        refine g_ishl (n := 399) dX9_passes_398 rfl ?_
        refine g_iconst (v := (-1)) (n := 400) dX9_passes_399 (by decide) rfl ?_
        refine g_ixor (n := 401) dX9_passes_400 rfl ?_
        refine g_goto (tgt := 405) dX9_passes_401 (by decide) ?_
        refine g_iand (n := 406) dX9_passes_405 rfl ?_
        refine g_iastN (n := 407) dX9_passes_406 rfl rfl (by decide) (by omega) ?_
        refine g_wN (w' := [_, _, _, _, _, _, _, _, _]) rfl ?_
        refine g_iincN (k := 1) (n := 410) dX9_passes_407 rfl (by decide) rfl rfl ?_
        refine g_lsN (ls' := [_, _, _, _, _, _]) rfl ?_
        refine g_goto (tgt := 299) dX9_passes_410 (by decide) ?_
        rw [← sk_up] at ih
        exact ih _
      ·
        have a1 := bI_0.mp c375
        refine g_aload_n (n := 379) dX9_passes_378 rfl rfl ?_
        refine g_aload_n (n := 380) dX9_passes_379 rfl rfl ?_
        refine g_get (n := 383) fl_X9_22 dX9_passes_380 rfl rfl rfl ?_
        refine g_bipush (v := nI 9) (n := 385) dX9_passes_383 (by decide) rfl ?_
        refine g_iload (n := 387) dX9_passes_385 rfl rfl ?_
        refine g_iaddN (n := 388) dX9_passes_387 rfl ?_
        refine g_ialdN (n := 389) dX9_passes_388 rfl rfl (by decide) (by omega) ?_
        refine g_top (sk_bo _ (by omega)) ?_
        refine g_callWi (n := 392) cv_X9_98 (t_X9_hasFallen l _ _ _ _) dX9_passes_389 rfl ⟨by decide, by decide, rfl, rfl, hz.1, hz.2⟩ rfl rfl rfl (Nat.le_of_ble_eq_true rfl) rfl rfl ?_
        refine g_if_eq (tgt := 404) (n := 395) dX9_passes_392 (by decide) rfl (fun c392 => ?_) (fun c392 => ?_)
        ·
          have e1 : upN V S (f + 1) = upN V S f &&& (-1) := by rw [upN, ← ht, a1, bI_0.mp c392]; rfl
          rw [e1] at ih
          refine g_iconst (v := (-1)) (n := 405) dX9_passes_404 (by decide) rfl ?_
          refine g_iand (n := 406) dX9_passes_405 rfl ?_
          refine g_iastN (n := 407) dX9_passes_406 rfl rfl (by decide) (by omega) ?_
          refine g_wN (w' := [_, _, _, _, _, _, _, _, _]) rfl ?_
          refine g_iincN (k := 1) (n := 410) dX9_passes_407 rfl (by decide) rfl rfl ?_
          refine g_lsN (ls' := [_, _, _, _, _, _]) rfl ?_
          refine g_goto (tgt := 299) dX9_passes_410 (by decide) ?_
          rw [← sk_up] at ih
          exact ih _
        ·
          have e1 : upN V S (f + 1) = upN V S f &&& ((nI 1 <<< (nI f &&& 31)) ^^^ (-1)) := by rw [upN, ← ht, a1, bI_n0.mp c392]; rfl
          rw [e1] at ih
          refine g_iconst (v := nI 1) (n := 396) dX9_passes_395 (by decide) rfl ?_
          refine g_iload (n := 398) dX9_passes_396 rfl rfl ?_
          refine g_ishl (n := 399) dX9_passes_398 rfl ?_
          refine g_iconst (v := (-1)) (n := 400) dX9_passes_399 (by decide) rfl ?_
          refine g_ixor (n := 401) dX9_passes_400 rfl ?_
          refine g_goto (tgt := 405) dX9_passes_401 (by decide) ?_
          refine g_iand (n := 406) dX9_passes_405 rfl ?_
          refine g_iastN (n := 407) dX9_passes_406 rfl rfl (by decide) (by omega) ?_
          refine g_wN (w' := [_, _, _, _, _, _, _, _, _]) rfl ?_
          refine g_iincN (k := 1) (n := 410) dX9_passes_407 rfl (by decide) rfl rfl ?_
          refine g_lsN (ls' := [_, _, _, _, _, _]) rfl ?_
          refine g_goto (tgt := 299) dX9_passes_410 (by decide) ?_
          rw [← sk_up] at ih
          exact ih _
    have t2 : ti2 V S f = tiF V S f := by show mix _ _ _ _ = _; unfold mix; rw [if_pos hf]
    refine g_iload (n := 301) dX9_passes_299 rfl rfl ?_
    refine g_aload_n (n := 302) dX9_passes_301 rfl rfl ?_
    refine g_get (n := 305) fl_X9_13 dX9_passes_302 rfl rfl rfl ?_
    refine g_iconst (v := nI 1) (n := 306) dX9_passes_305 (by decide) rfl ?_
    refine g_ialdN (n := 307) dX9_passes_306 rfl rfl (by decide) (by omega) ?_
    refine g_top (tk_1 _) ?_
    refine g_icmp_ge (tgt := 413) (n := 310) dX9_passes_307 (by decide) rfl (fun c307 => absurd c307 (nI_ge hf (by omega))) (fun c307 => ?_)
    refine g_aload_n (n := 311) dX9_passes_310 rfl rfl ?_
    refine g_get (n := 314) fl_X9_22 dX9_passes_311 rfl rfl rfl ?_
    refine g_iconst (v := nI 3) (n := 315) dX9_passes_314 (by decide) rfl ?_
    refine g_iload (n := 317) dX9_passes_315 rfl rfl ?_
    refine g_iaddN (n := 318) dX9_passes_317 rfl ?_
    refine g_ialdN (n := 319) dX9_passes_318 rfl rfl (by decide) (by omega) ?_
    refine g_top (sk_ti _ (by omega)) ?_
    refine g_top t2 ?_
    refine g_aload_n (n := 320) dX9_passes_319 rfl rfl ?_
    refine g_get (n := 323) fl_X9_13 dX9_passes_320 rfl rfl rfl ?_
    refine g_bipush (v := nI 32) (n := 325) dX9_passes_323 (by decide) rfl ?_
    refine g_iload (n := 327) dX9_passes_325 rfl rfl ?_
    refine g_iaddN (n := 328) dX9_passes_327 rfl ?_
    refine g_ialdN (n := 329) dX9_passes_328 rfl rfl (by decide) (by omega) ?_
    refine g_top (tk_kn _ (by omega)) ?_
    refine g_icmp_le (tgt := 363) (n := 332) dX9_passes_329 (by decide) rfl (fun c329 => ?_) (fun c329 => ?_)
    ·
      have e0 : false = trd V S f := by unfold trd; rw [decide_eq_true c329]; rfl
      refine g_iconst (v := nI 0) (n := 364) dX9_passes_363 (by decide) rfl ?_
      exact J364 _ e0
    ·
      have a1 := decide_eq_false c329
      refine g_aload_n (n := 333) dX9_passes_332 rfl rfl ?_
      refine g_get (n := 336) fl_X9_13 dX9_passes_333 rfl rfl rfl ?_
      refine g_bipush (v := nI 20) (n := 338) dX9_passes_336 (by decide) rfl ?_
      refine g_iload (n := 340) dX9_passes_338 rfl rfl ?_
      refine g_iaddN (n := 341) dX9_passes_340 rfl ?_
      refine g_ialdN (n := 342) dX9_passes_341 rfl rfl (by decide) (by omega) ?_
      refine g_top (tk_ki _ (by omega)) ?_
      refine g_iconst (v := nI 3) (n := 343) dX9_passes_342 (by decide) rfl ?_
      refine g_icmp_ne (tgt := 359) (n := 346) dX9_passes_343 (by decide) rfl (fun c343 => ?_) (fun c343 => ?_)
      ·
        have e0 : true = trd V S f := by unfold trd; rw [a1, decide_eq_false c343]; rfl
        refine g_iconst (v := nI 1) (n := 360) dX9_passes_359 (by decide) rfl ?_
        refine g_goto (tgt := 364) dX9_passes_360 (by decide) ?_
        exact J364 _ e0
      ·
        have a2 := decide_eq_true c343
        refine g_aload_n (n := 347) dX9_passes_346 rfl rfl ?_
        refine g_aload_n (n := 348) dX9_passes_347 rfl rfl ?_
        refine g_get (n := 351) fl_X9_22 dX9_passes_348 rfl rfl rfl ?_
        refine g_iconst (v := nI 0) (n := 352) dX9_passes_351 (by decide) rfl ?_
        refine g_ialdN (n := 353) dX9_passes_352 rfl rfl (by decide) (by omega) ?_
        refine g_top (sk_0 _) ?_
        refine g_callWi (n := 356) cv_X9_122 (t_X9_areCarts l _ _ _ hV _) dX9_passes_353 rfl ⟨by decide, by decide, rfl, rfl, hz.1, hz.2⟩ rfl rfl rfl (Nat.le_of_ble_eq_true rfl) rfl rfl ?_
        refine g_if_ne (tgt := 363) (n := 359) dX9_passes_356 (by decide) rfl (fun c356 => ?_) (fun c356 => ?_)
        ·
          have e0 : false = trd V S f := by unfold trd; rw [a1, a2, bI_n0.mp c356]; rfl
          refine g_iconst (v := nI 0) (n := 364) dX9_passes_363 (by decide) rfl ?_
          exact J364 _ e0
        ·
          have e0 : true = trd V S f := by unfold trd; rw [a1, a2, bI_0.mp c356]; rfl
          refine g_iconst (v := nI 1) (n := 360) dX9_passes_359 (by decide) rfl ?_
          refine g_goto (tgt := 364) dX9_passes_360 (by decide) ?_
          exact J364 _ e0
set_option maxRecDepth 20000 in
set_option maxHeartbeats 4000000 in
theorem lp3_X9_passes (l : Launch) (z : Nat × Nat × Nat) (hz : z.2.1 ≤ 0 ∧ z.2.2 ≤ 0) (Q : Option Value → List va_E → Prop) (e : MR) (V : WT) (S : ST) (hV : okV V) (hQ : Q none (mw e (tk V) (pk (psF V S)))) : ∀ b, b ≤ vnb V → ∀ (o5 : Option Value), G l M_X9_passes z Q 191 [some (.ref 0), some (.int (hdN V S (vnb V))), some (.int (twN V S (vnf V))), some (.int (flN V S b)), some (.int (nI b)), o5] [] (mw e (tk V) (pk (sho S, sup S, sfa S, ti2 V S, sbo S, mix (unF V S) (sun S) b))) := by
  have hV1 := hV.1
  have hV2 := hV.2.1
  have hV3 := hV.2.2
  refine loopN (vnb V) ?_ (fun b hb_ ih => ?_)
  ·
    intro o5
    refine g_iload (n := 193) dX9_passes_191 rfl rfl ?_
    refine g_aload_n (n := 194) dX9_passes_193 rfl rfl ?_
    refine g_get (n := 197) fl_X9_13 dX9_passes_194 rfl rfl rfl ?_
    refine g_iconst (v := nI 0) (n := 198) dX9_passes_197 (by decide) rfl ?_
    refine g_ialdN (n := 199) dX9_passes_198 rfl rfl (by decide) (by omega) ?_
    refine g_top (tk_0 _) ?_
    refine g_icmp_ge (tgt := 286) (n := 202) dX9_passes_199 (by decide) rfl (fun c199 => ?_) (fun c199 => absurd (nI_le (Nat.le_refl _) (by omega)) c199)
    refine g_aload_n (n := 287) dX9_passes_286 rfl rfl ?_
    refine g_get (n := 290) fl_X9_22 dX9_passes_287 rfl rfl rfl ?_
    refine g_iconst (v := nI 2) (n := 291) dX9_passes_290 (by decide) rfl ?_
    refine g_dup2 (n := 292) dX9_passes_291 rfl rfl rfl ?_
    refine g_ialdN (n := 293) dX9_passes_292 rfl rfl (by decide) (by omega) ?_
    refine g_iload_n (n := 294) dX9_passes_293 rfl rfl ?_
    refine g_ior (n := 295) dX9_passes_294 rfl ?_
    refine g_iastN (n := 296) dX9_passes_295 rfl rfl (by decide) (by omega) ?_
    refine g_wN (w' := [_, _, _, _, _, _, _, _, _]) rfl ?_
    rw [sk_fa]
    refine g_iconst (v := nI 0) (n := 297) dX9_passes_296 (by decide) rfl ?_
    refine g_istore (n := 299) dX9_passes_297 (by decide) rfl rfl ?_
    refine g_lsN (ls' := [_, _, _, _, _, _]) rfl ?_
    exact lp4_X9_passes l z hz Q e V S hV hQ 0 (Nat.zero_le _) _
  ·
    intro o5
    have J245 : ∀ (x : Int32), hb (sfa S) (nI b) = false → x = unF V S b → G l M_X9_passes z Q 245 [some (.ref 0), some (.int (hdN V S (vnb V))), some (.int (twN V S (vnf V))), some (.int (flN V S b)), some (.int (nI b)), o5] [.int x, .int (nI (15 + b)), .ref 5] (mw e (tk V) (pk (sho S, sup S, sfa S, ti2 V S, sbo S, mix (unF V S) (sun S) b))) := by
      intro x hn hx
      refine g_iastN (n := 246) dX9_passes_245 rfl rfl (by decide) (by omega) ?_
      refine g_wN (w' := [_, _, _, _, _, _, _, _, _]) rfl ?_
      rw [sk_uun _ _ _ _ _ _ _ (by omega), hx, mix_s]
      refine g_iload_n (n := 247) dX9_passes_246 rfl rfl ?_
      refine g_aload_n (n := 248) dX9_passes_247 rfl rfl ?_
      refine g_get (n := 251) fl_X9_22 dX9_passes_248 rfl rfl rfl ?_
      refine g_bipush (v := nI 15) (n := 253) dX9_passes_251 (by decide) rfl ?_
      refine g_iload (n := 255) dX9_passes_253 rfl rfl ?_
      refine g_iaddN (n := 256) dX9_passes_255 rfl ?_
      refine g_ialdN (n := 257) dX9_passes_256 rfl rfl (by decide) (by omega) ?_
      refine g_top (sk_un _ (by omega)) ?_
      refine g_top (y := unF V S b) (by show mix _ _ _ _ = _; unfold mix; rw [if_pos (by omega)]) ?_
      refine g_aload_n (n := 258) dX9_passes_257 rfl rfl ?_
      refine g_get (n := 261) fl_X9_13 dX9_passes_258 rfl rfl rfl ?_
      refine g_bipush (v := nI 12) (n := 263) dX9_passes_261 (by decide) rfl ?_
      refine g_iload (n := 265) dX9_passes_263 rfl rfl ?_
      refine g_iaddN (n := 266) dX9_passes_265 rfl ?_
      refine g_ialdN (n := 267) dX9_passes_266 rfl rfl (by decide) (by omega) ?_
      refine g_top (tk_pa _ (by omega)) ?_
      refine g_icmp_le (tgt := 277) (n := 270) dX9_passes_267 (by decide) rfl (fun c267 => ?_) (fun c267 => ?_)
      ·
        have e1 : flN V S (b + 1) = flN V S b ||| nI 0 := by rw [flN, hn, if_neg Bool.false_ne_true, if_pos c267]
        rw [e1] at ih
        refine g_iconst (v := nI 0) (n := 278) dX9_passes_277 (by decide) rfl ?_
        refine g_ior (n := 279) dX9_passes_278 rfl ?_
        refine g_istore_n (n := 280) dX9_passes_279 (by decide) rfl rfl ?_
        refine g_lsN (ls' := [_, _, _, _, _, _]) rfl ?_
        refine g_iincN (k := 1) (n := 283) dX9_passes_280 rfl (by decide) rfl rfl ?_
        refine g_lsN (ls' := [_, _, _, _, _, _]) rfl ?_
        refine g_goto (tgt := 191) dX9_passes_283 (by decide) ?_
        exact ih _
      ·
        have e1 : flN V S (b + 1) = flN V S b ||| nI 1 <<< (nI b &&& 31) := by rw [flN, hn, if_neg Bool.false_ne_true, if_neg c267]
        rw [e1] at ih
        refine g_iconst (v := nI 1) (n := 271) dX9_passes_270 (by decide) rfl ?_
        refine g_iload (n := 273) dX9_passes_271 rfl rfl ?_
        refine g_ishl (n := 274) dX9_passes_273 rfl ?_
        refine g_goto (tgt := 278) dX9_passes_274 (by decide) ?_
        refine g_ior (n := 279) dX9_passes_278 rfl ?_
        refine g_istore_n (n := 280) dX9_passes_279 (by decide) rfl rfl ?_
        refine g_lsN (ls' := [_, _, _, _, _, _]) rfl ?_
        refine g_iincN (k := 1) (n := 283) dX9_passes_280 rfl (by decide) rfl rfl ?_
        refine g_lsN (ls' := [_, _, _, _, _, _]) rfl ?_
        refine g_goto (tgt := 191) dX9_passes_283 (by decide) ?_
        exact ih _
    refine g_iload (n := 193) dX9_passes_191 rfl rfl ?_
    refine g_aload_n (n := 194) dX9_passes_193 rfl rfl ?_
    refine g_get (n := 197) fl_X9_13 dX9_passes_194 rfl rfl rfl ?_
    refine g_iconst (v := nI 0) (n := 198) dX9_passes_197 (by decide) rfl ?_
    refine g_ialdN (n := 199) dX9_passes_198 rfl rfl (by decide) (by omega) ?_
    refine g_top (tk_0 _) ?_
    refine g_icmp_ge (tgt := 286) (n := 202) dX9_passes_199 (by decide) rfl (fun c199 => absurd c199 (nI_ge hb_ (by omega))) (fun c199 => ?_)
    refine g_aload_n (n := 203) dX9_passes_202 rfl rfl ?_
    refine g_iload (n := 205) dX9_passes_203 rfl rfl ?_
    refine g_callWi (n := 208) cv_X9_98 (t_X9_hasFallen l _ _ _ _) dX9_passes_205 rfl ⟨by decide, by decide, rfl, rfl, hz.1, hz.2⟩ rfl rfl rfl (Nat.le_of_ble_eq_true rfl) rfl rfl ?_
    refine g_if_ne (tgt := 280) (n := 211) dX9_passes_208 (by decide) rfl (fun c208 => ?_) (fun c208 => ?_)
    ·
      have e1 : flN V S (b + 1) = flN V S b := by rw [flN, bI_n0.mp c208]; rfl
      have e2 : mix (unF V S) (sun S) (b + 1) = mix (unF V S) (sun S) b := mix_e (by unfold unF; rw [bI_n0.mp c208]; rfl)
      rw [e1, e2] at ih
      refine g_iincN (k := 1) (n := 283) dX9_passes_280 rfl (by decide) rfl rfl ?_
      refine g_lsN (ls' := [_, _, _, _, _, _]) rfl ?_
      refine g_goto (tgt := 191) dX9_passes_283 (by decide) ?_
      exact ih _
    ·
      have a1 := bI_0.mp c208
      refine g_aload_n (n := 212) dX9_passes_211 rfl rfl ?_
      refine g_get (n := 215) fl_X9_22 dX9_passes_212 rfl rfl rfl ?_
      refine g_bipush (v := nI 15) (n := 217) dX9_passes_215 (by decide) rfl ?_
      refine g_iload (n := 219) dX9_passes_217 rfl rfl ?_
      refine g_iaddN (n := 220) dX9_passes_219 rfl ?_
      refine g_iload_n (n := 221) dX9_passes_220 rfl rfl ?_
      refine g_iload (n := 223) dX9_passes_221 rfl rfl ?_
      refine g_callSi (n := 226) cs_X9_94 (t_X9_has l _ _) dX9_passes_223 rfl rfl ⟨by decide, by decide, rfl, rfl, hz.1, hz.2⟩ rfl (Nat.le_of_ble_eq_true rfl) rfl ?_
      refine g_if_eq (tgt := 233) (n := 229) dX9_passes_226 (by decide) rfl (fun c226 => ?_) (fun c226 => ?_)
      ·
        have a2 := bI_0.mp c226
        refine g_aload_n (n := 234) dX9_passes_233 rfl rfl ?_
        refine g_get (n := 237) fl_X9_22 dX9_passes_234 rfl rfl rfl ?_
        refine g_bipush (v := nI 15) (n := 239) dX9_passes_237 (by decide) rfl ?_
        refine g_iload (n := 241) dX9_passes_239 rfl rfl ?_
        refine g_iaddN (n := 242) dX9_passes_241 rfl ?_
        refine g_ialdN (n := 243) dX9_passes_242 rfl rfl (by decide) (by omega) ?_
        refine g_top (sk_un _ (by omega)) ?_
        refine g_top (mix_at _ _ _) ?_
        refine g_iconst (v := nI 1) (n := 244) dX9_passes_243 (by decide) rfl ?_
        refine g_iadd (n := 245) dX9_passes_244 rfl ?_
        have e0 : sun S b + nI 1 = unF V S b := by unfold unF; rw [a1, if_neg Bool.false_ne_true, a2]; rfl
        exact J245 _ a1 e0
      ·
        have e0 : nI 0 = unF V S b := by unfold unF; rw [a1, if_neg Bool.false_ne_true, bI_n0.mp c226]; rfl
        refine g_iconst (v := nI 0) (n := 230) dX9_passes_229 (by decide) rfl ?_
        refine g_goto (tgt := 245) dX9_passes_230 (by decide) ?_
        exact J245 _ a1 e0
set_option maxRecDepth 20000 in
set_option maxHeartbeats 4000000 in
theorem lp2_X9_passes (l : Launch) (z : Nat × Nat × Nat) (hz : z.2.1 ≤ 0 ∧ z.2.2 ≤ 0) (Q : Option Value → List va_E → Prop) (e : MR) (V : WT) (S : ST) (hV : okV V) (hQ : Q none (mw e (tk V) (pk (psF V S)))) : ∀ f, f ≤ vnf V → ∀ (o4 o5 : Option Value), G l M_X9_passes z Q 68 [some (.ref 0), some (.int (hdN V S (vnb V))), some (.int (twN V S (vnf V))), some (.int (nI f)), o4, o5] [] (mw e (tk V) (pk (sho S, sup S, sfa S, mix (tiF V S) (sti S) f, sbo S, sun S))) := by
  have hV1 := hV.1
  have hV2 := hV.2.1
  have hV3 := hV.2.2
  refine loopN (vnf V) ?_ (fun f hf ih => ?_)
  ·
    intro o4 o5
    refine g_iload_n (n := 69) dX9_passes_68 rfl rfl ?_
    refine g_aload_n (n := 70) dX9_passes_69 rfl rfl ?_
    refine g_get (n := 73) fl_X9_13 dX9_passes_70 rfl rfl rfl ?_
    refine g_iconst (v := nI 1) (n := 74) dX9_passes_73 (by decide) rfl ?_
    refine g_ialdN (n := 75) dX9_passes_74 rfl rfl (by decide) (by omega) ?_
    refine g_top (tk_1 _) ?_
    refine g_icmp_ge (tgt := 186) (n := 78) dX9_passes_75 (by decide) rfl (fun c75 => ?_) (fun c75 => absurd (nI_le (Nat.le_refl _) (by omega)) c75)
    refine g_iconst (v := nI 0) (n := 187) dX9_passes_186 (by decide) rfl ?_
    refine g_istore_n (n := 188) dX9_passes_187 (by decide) rfl rfl ?_
    refine g_lsN (ls' := [_, _, _, _, _, _]) rfl ?_
    refine g_iconst (v := nI 0) (n := 189) dX9_passes_188 (by decide) rfl ?_
    refine g_istore (n := 191) dX9_passes_189 (by decide) rfl rfl ?_
    refine g_lsN (ls' := [_, _, _, _, _, _]) rfl ?_
    have h3 := lp3_X9_passes l z hz Q e V S hV hQ 0 (Nat.zero_le _)
    rw [mix_0] at h3
    exact h3 _
  ·
    intro o4 o5
    have J128 : ∀ (o5 : Option Value), G l M_X9_passes z Q 128 [some (.ref 0), some (.int (hdN V S (vnb V))), some (.int (twN V S (vnf V))), some (.int (nI f)), some (.int (rsF V S f)), o5] [.int (if hb (twN V S (vnf V)) (nI f) then nI 2 else nI 1), .int (sti S f)] (mw e (tk V) (pk (sho S, sup S, sfa S, mix (tiF V S) (sti S) f, sbo S, sun S))) := by
      intro o5
      refine g_iadd (n := 129) dX9_passes_128 rfl ?_
      refine g_top (y := moF V S f) rfl ?_
      refine g_istore (n := 131) dX9_passes_129 (by decide) rfl rfl ?_
      refine g_lsN (ls' := [_, _, _, _, _, _]) rfl ?_
      refine g_aload_n (n := 132) dX9_passes_131 rfl rfl ?_
      refine g_get (n := 135) fl_X9_22 dX9_passes_132 rfl rfl rfl ?_
      refine g_iconst (v := nI 3) (n := 136) dX9_passes_135 (by decide) rfl ?_
      refine g_iload_n (n := 137) dX9_passes_136 rfl rfl ?_
      refine g_iaddN (n := 138) dX9_passes_137 rfl ?_
      refine g_aload_n (n := 139) dX9_passes_138 rfl rfl ?_
      refine g_get (n := 142) fl_X9_22 dX9_passes_139 rfl rfl rfl ?_
      refine g_iconst (v := nI 1) (n := 143) dX9_passes_142 (by decide) rfl ?_
      refine g_ialdN (n := 144) dX9_passes_143 rfl rfl (by decide) (by omega) ?_
      refine g_top (sk_1 _) ?_
      refine g_iload_n (n := 145) dX9_passes_144 rfl rfl ?_
      refine g_callSi (n := 148) cs_X9_94 (t_X9_has l _ _) dX9_passes_145 rfl rfl ⟨by decide, by decide, rfl, rfl, hz.1, hz.2⟩ rfl (Nat.le_of_ble_eq_true rfl) rfl ?_
      refine g_if_eq (tgt := 168) (n := 151) dX9_passes_148 (by decide) rfl (fun c148 => ?_) (fun c148 => ?_)
      ·
        have a1 := bI_0.mp c148
        refine g_iload (n := 170) dX9_passes_168 rfl rfl ?_
        refine g_if_ge (tgt := 177) (n := 173) dX9_passes_170 (by decide) rfl (fun c170 => ?_) (fun c170 => ?_)
        ·
          have e1 : rsF V S f = tiF V S f := by rw [tiF, a1, if_neg Bool.false_ne_true, if_pos c170]
          refine g_iload (n := 179) dX9_passes_177 rfl rfl ?_
          refine g_iastN (n := 180) dX9_passes_179 rfl rfl (by decide) (by omega) ?_
          refine g_wN (w' := [_, _, _, _, _, _, _, _, _]) rfl ?_
          rw [sk_uti _ _ _ _ _ _ _ (by omega), e1, mix_s]
          refine g_iincN (k := 1) (n := 183) dX9_passes_180 rfl (by decide) rfl rfl ?_
          refine g_lsN (ls' := [_, _, _, _, _, _]) rfl ?_
          refine g_goto (tgt := 68) dX9_passes_183 (by decide) ?_
          exact ih _ _
        ·
          have e1 : nI 0 = tiF V S f := by rw [tiF, a1, if_neg Bool.false_ne_true, if_neg c170]
          refine g_iconst (v := nI 0) (n := 174) dX9_passes_173 (by decide) rfl ?_
          refine g_goto (tgt := 179) dX9_passes_174 (by decide) ?_
          refine g_iastN (n := 180) dX9_passes_179 rfl rfl (by decide) (by omega) ?_
          refine g_wN (w' := [_, _, _, _, _, _, _, _, _]) rfl ?_
          rw [sk_uti _ _ _ _ _ _ _ (by omega), e1, mix_s]
          refine g_iincN (k := 1) (n := 183) dX9_passes_180 rfl (by decide) rfl rfl ?_
          refine g_lsN (ls' := [_, _, _, _, _, _]) rfl ?_
          refine g_goto (tgt := 68) dX9_passes_183 (by decide) ?_
          exact ih _ _
      ·
        have a1 := bI_n0.mp c148
        refine g_iload (n := 153) dX9_passes_151 rfl rfl ?_
        refine g_bipush (v := nI 99) (n := 155) dX9_passes_153 (by decide) rfl ?_
        refine g_icmp_le (tgt := 163) (n := 158) dX9_passes_155 (by decide) rfl (fun c155 => ?_) (fun c155 => ?_)
        ·
          have e1 : moF V S f = tiF V S f := by rw [tiF, a1, if_pos rfl, if_pos c155]
          refine g_iload (n := 165) dX9_passes_163 rfl rfl ?_
          refine g_goto (tgt := 179) dX9_passes_165 (by decide) ?_
          refine g_iastN (n := 180) dX9_passes_179 rfl rfl (by decide) (by omega) ?_
          refine g_wN (w' := [_, _, _, _, _, _, _, _, _]) rfl ?_
          rw [sk_uti _ _ _ _ _ _ _ (by omega), e1, mix_s]
          refine g_iincN (k := 1) (n := 183) dX9_passes_180 rfl (by decide) rfl rfl ?_
          refine g_lsN (ls' := [_, _, _, _, _, _]) rfl ?_
          refine g_goto (tgt := 68) dX9_passes_183 (by decide) ?_
          exact ih _ _
        ·
          have e1 : nI 99 = tiF V S f := by rw [tiF, a1, if_pos rfl, if_neg c155]
          refine g_bipush (v := nI 99) (n := 160) dX9_passes_158 (by decide) rfl ?_
          refine g_goto (tgt := 179) dX9_passes_160 (by decide) ?_
          refine g_iastN (n := 180) dX9_passes_179 rfl rfl (by decide) (by omega) ?_
          refine g_wN (w' := [_, _, _, _, _, _, _, _, _]) rfl ?_
          rw [sk_uti _ _ _ _ _ _ _ (by omega), e1, mix_s]
          refine g_iincN (k := 1) (n := 183) dX9_passes_180 rfl (by decide) rfl rfl ?_
          refine g_lsN (ls' := [_, _, _, _, _, _]) rfl ?_
          refine g_goto (tgt := 68) dX9_passes_183 (by decide) ?_
          exact ih _ _
    have J104 : ∀ (o4 o5 : Option Value), G l M_X9_passes z Q 104 [some (.ref 0), some (.int (hdN V S (vnb V))), some (.int (twN V S (vnf V))), some (.int (nI f)), o4, o5] [.int (if vki V f = nI 2 then nI 1 else nI 2), .int (sti S f)] (mw e (tk V) (pk (sho S, sup S, sfa S, mix (tiF V S) (sti S) f, sbo S, sun S))) := by
      intro o4 o5
      refine g_isub (n := 105) dX9_passes_104 rfl ?_
      refine g_top (y := rsF V S f) rfl ?_
      refine g_istore (n := 107) dX9_passes_105 (by decide) rfl rfl ?_
      refine g_lsN (ls' := [_, _, _, _, _, _]) rfl ?_
      refine g_aload_n (n := 108) dX9_passes_107 rfl rfl ?_
      refine g_get (n := 111) fl_X9_22 dX9_passes_108 rfl rfl rfl ?_
      refine g_iconst (v := nI 3) (n := 112) dX9_passes_111 (by decide) rfl ?_
      refine g_iload_n (n := 113) dX9_passes_112 rfl rfl ?_
      refine g_iaddN (n := 114) dX9_passes_113 rfl ?_
      refine g_ialdN (n := 115) dX9_passes_114 rfl rfl (by decide) (by omega) ?_
      refine g_top (sk_ti _ (by omega)) ?_
      refine g_top (mix_at _ _ _) ?_
      refine g_iload_n (n := 116) dX9_passes_115 rfl rfl ?_
      refine g_iload_n (n := 117) dX9_passes_116 rfl rfl ?_
      refine g_callSi (n := 120) cs_X9_94 (t_X9_has l _ _) dX9_passes_117 rfl rfl ⟨by decide, by decide, rfl, rfl, hz.1, hz.2⟩ rfl (Nat.le_of_ble_eq_true rfl) rfl ?_
      refine g_if_eq (tgt := 127) (n := 123) dX9_passes_120 (by decide) rfl (fun c120 => ?_) (fun c120 => ?_)
      ·
        rw [bI_0.mp c120] at J128
        refine g_iconst (v := nI 1) (n := 128) dX9_passes_127 (by decide) rfl ?_
        exact J128 _
      ·
        rw [bI_n0.mp c120] at J128
        refine g_iconst (v := nI 2) (n := 124) dX9_passes_123 (by decide) rfl ?_
        refine g_goto (tgt := 128) dX9_passes_124 (by decide) ?_
        exact J128 _
    refine g_iload_n (n := 69) dX9_passes_68 rfl rfl ?_
    refine g_aload_n (n := 70) dX9_passes_69 rfl rfl ?_
    refine g_get (n := 73) fl_X9_13 dX9_passes_70 rfl rfl rfl ?_
    refine g_iconst (v := nI 1) (n := 74) dX9_passes_73 (by decide) rfl ?_
    refine g_ialdN (n := 75) dX9_passes_74 rfl rfl (by decide) (by omega) ?_
    refine g_top (tk_1 _) ?_
    refine g_icmp_ge (tgt := 186) (n := 78) dX9_passes_75 (by decide) rfl (fun c75 => absurd c75 (nI_ge hf (by omega))) (fun c75 => ?_)
    refine g_aload_n (n := 79) dX9_passes_78 rfl rfl ?_
    refine g_get (n := 82) fl_X9_22 dX9_passes_79 rfl rfl rfl ?_
    refine g_iconst (v := nI 3) (n := 83) dX9_passes_82 (by decide) rfl ?_
    refine g_iload_n (n := 84) dX9_passes_83 rfl rfl ?_
    refine g_iaddN (n := 85) dX9_passes_84 rfl ?_
    refine g_ialdN (n := 86) dX9_passes_85 rfl rfl (by decide) (by omega) ?_
    refine g_top (sk_ti _ (by omega)) ?_
    refine g_top (mix_at _ _ _) ?_
    refine g_aload_n (n := 87) dX9_passes_86 rfl rfl ?_
    refine g_get (n := 90) fl_X9_13 dX9_passes_87 rfl rfl rfl ?_
    refine g_bipush (v := nI 20) (n := 92) dX9_passes_90 (by decide) rfl ?_
    refine g_iload_n (n := 93) dX9_passes_92 rfl rfl ?_
    refine g_iaddN (n := 94) dX9_passes_93 rfl ?_
    refine g_ialdN (n := 95) dX9_passes_94 rfl rfl (by decide) (by omega) ?_
    refine g_top (tk_ki _ (by omega)) ?_
    refine g_iconst (v := nI 2) (n := 96) dX9_passes_95 (by decide) rfl ?_
    refine g_icmp_ne (tgt := 103) (n := 99) dX9_passes_96 (by decide) rfl (fun c96 => ?_) (fun c96 => ?_)
    ·
      rw [if_neg c96] at J104
      refine g_iconst (v := nI 2) (n := 104) dX9_passes_103 (by decide) rfl ?_
      exact J104 _ _
    ·
      rw [if_pos c96] at J104
      refine g_iconst (v := nI 1) (n := 100) dX9_passes_99 (by decide) rfl ?_
      refine g_goto (tgt := 104) dX9_passes_100 (by decide) ?_
      exact J104 _ _
set_option maxRecDepth 20000 in
set_option maxHeartbeats 4000000 in
theorem lp1_X9_passes (l : Launch) (z : Nat × Nat × Nat) (hz : z.2.1 ≤ 0 ∧ z.2.2 ≤ 0) (Q : Option Value → List va_E → Prop) (e : MR) (V : WT) (S : ST) (hV : okV V) (hQ : Q none (mw e (tk V) (pk (psF V S)))) : ∀ f, f ≤ vnf V → ∀ (o4 o5 : Option Value), G l M_X9_passes z Q 9 [some (.ref 0), some (.int (hdN V S (vnb V))), some (.int (twN V S f)), some (.int (nI f)), o4, o5] [] (mw e (tk V) (pk S)) := by
  have hV1 := hV.1
  have hV2 := hV.2.1
  have hV3 := hV.2.2
  refine loopN (vnf V) ?_ (fun f hf ih => ?_)
  ·
    intro o4 o5
    refine g_iload_n (n := 10) dX9_passes_9 rfl rfl ?_
    refine g_aload_n (n := 11) dX9_passes_10 rfl rfl ?_
    refine g_get (n := 14) fl_X9_13 dX9_passes_11 rfl rfl rfl ?_
    refine g_iconst (v := nI 1) (n := 15) dX9_passes_14 (by decide) rfl ?_
    refine g_ialdN (n := 16) dX9_passes_15 rfl rfl (by decide) (by omega) ?_
    refine g_top (tk_1 _) ?_
    refine g_icmp_ge (tgt := 66) (n := 19) dX9_passes_16 (by decide) rfl (fun c16 => ?_) (fun c16 => absurd (nI_le (Nat.le_refl _) (by omega)) c16)
    refine g_iconst (v := nI 0) (n := 67) dX9_passes_66 (by decide) rfl ?_
    refine g_istore_n (n := 68) dX9_passes_67 (by decide) rfl rfl ?_
    refine g_lsN (ls' := [_, _, _, _, _, _]) rfl ?_
    have h3 := lp2_X9_passes l z hz Q e V S hV hQ 0 (Nat.zero_le _)
    rw [mix_0] at h3
    exact h3 _ _
  ·
    intro o4 o5
    refine g_iload_n (n := 10) dX9_passes_9 rfl rfl ?_
    refine g_aload_n (n := 11) dX9_passes_10 rfl rfl ?_
    refine g_get (n := 14) fl_X9_13 dX9_passes_11 rfl rfl rfl ?_
    refine g_iconst (v := nI 1) (n := 15) dX9_passes_14 (by decide) rfl ?_
    refine g_ialdN (n := 16) dX9_passes_15 rfl rfl (by decide) (by omega) ?_
    refine g_top (tk_1 _) ?_
    refine g_icmp_ge (tgt := 66) (n := 19) dX9_passes_16 (by decide) rfl (fun c16 => absurd c16 (nI_ge hf (by omega))) (fun c16 => ?_)
    refine g_aload_n (n := 20) dX9_passes_19 rfl rfl ?_
    refine g_get (n := 23) fl_X9_13 dX9_passes_20 rfl rfl rfl ?_
    refine g_bipush (v := nI 20) (n := 25) dX9_passes_23 (by decide) rfl ?_
    refine g_iload_n (n := 26) dX9_passes_25 rfl rfl ?_
    refine g_iaddN (n := 27) dX9_passes_26 rfl ?_
    refine g_ialdN (n := 28) dX9_passes_27 rfl rfl (by decide) (by omega) ?_
    refine g_top (tk_ki _ (by omega)) ?_
    refine g_istore (n := 30) dX9_passes_28 (by decide) rfl rfl ?_
    refine g_lsN (ls' := [_, _, _, _, _, _]) rfl ?_
    refine g_iload_n (n := 31) dX9_passes_30 rfl rfl ?_
    refine g_iload (n := 33) dX9_passes_31 rfl rfl ?_
    refine g_iconst (v := nI 2) (n := 34) dX9_passes_33 (by decide) rfl ?_
    refine g_icmp_eq (tgt := 51) (n := 37) dX9_passes_34 (by decide) rfl (fun c34 => ?_) (fun c34 => ?_)
    ·
      have e1 : twN V S (f + 1) = twN V S f ||| nI 1 <<< (nI f &&& 31) := by rw [twN]; unfold hrd; rw [decide_eq_true c34]; rfl
      rw [e1] at ih
      refine g_iconst (v := nI 1) (n := 52) dX9_passes_51 (by decide) rfl ?_
      refine g_iload_n (n := 53) dX9_passes_52 rfl rfl ?_
      refine g_ishl (n := 54) dX9_passes_53 rfl ?_
      refine g_goto (tgt := 58) dX9_passes_54 (by decide) ?_
      refine g_ior (n := 59) dX9_passes_58 rfl ?_
      refine g_istore_n (n := 60) dX9_passes_59 (by decide) rfl rfl ?_
      refine g_lsN (ls' := [_, _, _, _, _, _]) rfl ?_
      refine g_iincN (k := 1) (n := 63) dX9_passes_60 rfl (by decide) rfl rfl ?_
      refine g_lsN (ls' := [_, _, _, _, _, _]) rfl ?_
      refine g_goto (tgt := 9) dX9_passes_63 (by decide) ?_
      exact ih _ _
    ·
      have a1 := decide_eq_false c34
      refine g_iload (n := 39) dX9_passes_37 rfl rfl ?_
      refine g_iconst (v := nI 1) (n := 40) dX9_passes_39 (by decide) rfl ?_
      refine g_icmp_ne (tgt := 57) (n := 43) dX9_passes_40 (by decide) rfl (fun c40 => ?_) (fun c40 => ?_)
      ·
        have e1 : twN V S (f + 1) = twN V S f ||| nI 0 := by rw [twN]; unfold hrd; rw [a1, decide_eq_false c40]; rfl
        rw [e1] at ih
        refine g_iconst (v := nI 0) (n := 58) dX9_passes_57 (by decide) rfl ?_
        refine g_ior (n := 59) dX9_passes_58 rfl ?_
        refine g_istore_n (n := 60) dX9_passes_59 (by decide) rfl rfl ?_
        refine g_lsN (ls' := [_, _, _, _, _, _]) rfl ?_
        refine g_iincN (k := 1) (n := 63) dX9_passes_60 rfl (by decide) rfl rfl ?_
        refine g_lsN (ls' := [_, _, _, _, _, _]) rfl ?_
        refine g_goto (tgt := 9) dX9_passes_63 (by decide) ?_
        exact ih _ _
      ·
        have a2 := decide_eq_true c40
        refine g_aload_n (n := 44) dX9_passes_43 rfl rfl ?_
        refine g_iload_n (n := 45) dX9_passes_44 rfl rfl ?_
        refine g_callWi (n := 48) cv_X9_128 (t_X9_isAlone l _ _ _ hV f hf) dX9_passes_45 rfl ⟨by decide, by decide, rfl, rfl, hz.1, hz.2⟩ rfl rfl rfl (Nat.le_of_ble_eq_true rfl) rfl rfl ?_
        refine g_if_eq (tgt := 57) (n := 51) dX9_passes_48 (by decide) rfl (fun c48 => ?_) (fun c48 => ?_)
        ·
          have e1 : twN V S (f + 1) = twN V S f ||| nI 0 := by rw [twN]; unfold hrd; rw [a1, a2, bI_0.mp c48]; rfl
          rw [e1] at ih
          refine g_iconst (v := nI 0) (n := 58) dX9_passes_57 (by decide) rfl ?_
          refine g_ior (n := 59) dX9_passes_58 rfl ?_
          refine g_istore_n (n := 60) dX9_passes_59 (by decide) rfl rfl ?_
          refine g_lsN (ls' := [_, _, _, _, _, _]) rfl ?_
          refine g_iincN (k := 1) (n := 63) dX9_passes_60 rfl (by decide) rfl rfl ?_
          refine g_lsN (ls' := [_, _, _, _, _, _]) rfl ?_
          refine g_goto (tgt := 9) dX9_passes_63 (by decide) ?_
          exact ih _ _
        ·
          have e1 : twN V S (f + 1) = twN V S f ||| nI 1 <<< (nI f &&& 31) := by rw [twN]; unfold hrd; rw [a1, a2, bI_n0.mp c48]; rfl
          rw [e1] at ih
          refine g_iconst (v := nI 1) (n := 52) dX9_passes_51 (by decide) rfl ?_
          refine g_iload_n (n := 53) dX9_passes_52 rfl rfl ?_
          refine g_ishl (n := 54) dX9_passes_53 rfl ?_
          refine g_goto (tgt := 58) dX9_passes_54 (by decide) ?_
          refine g_ior (n := 59) dX9_passes_58 rfl ?_
          refine g_istore_n (n := 60) dX9_passes_59 (by decide) rfl rfl ?_
          refine g_lsN (ls' := [_, _, _, _, _, _]) rfl ?_
          refine g_iincN (k := 1) (n := 63) dX9_passes_60 rfl (by decide) rfl rfl ?_
          refine g_lsN (ls' := [_, _, _, _, _, _]) rfl ?_
          refine g_goto (tgt := 9) dX9_passes_63 (by decide) ?_
          exact ih _ _
set_option maxRecDepth 20000 in
theorem t_X9_passes (l : Launch) (e : MR) (V : WT) (S : ST) (hV : okV V) : Fn l M_X9_passes [.ref 0] (mw e (tk V) (pk S)) none (mw e (tk V) (pk (psF V S))) := by
  refine con_of rfl rfl (Nat.le_of_ble_eq_true rfl) ?_
  refine g_lsN (ls' := [_, _, _, _, _, _]) rfl ?_
  refine g_aload_n (n := 1) dX9_passes_0 rfl rfl ?_
  refine g_callWi (n := 4) cv_X9_125 (t_X9_heldNow l _ _ _ hV) dX9_passes_1 rfl ⟨by decide, by decide, rfl, rfl, Nat.zero_le _, Nat.zero_le _⟩ rfl rfl rfl (Nat.le_of_ble_eq_true rfl) rfl rfl ?_
  refine g_istore_n (n := 5) dX9_passes_4 (by decide) rfl rfl ?_
  refine g_lsN (ls' := [_, _, _, _, _, _]) rfl ?_
  refine g_iconst (v := nI 0) (n := 6) dX9_passes_5 (by decide) rfl ?_
  refine g_istore_n (n := 7) dX9_passes_6 (by decide) rfl rfl ?_
  refine g_lsN (ls' := [_, _, _, _, _, _]) rfl ?_
  refine g_iconst (v := nI 0) (n := 8) dX9_passes_7 (by decide) rfl ?_
  refine g_istore_n (n := 9) dX9_passes_8 (by decide) rfl rfl ?_
  refine g_lsN (ls' := [_, _, _, _, _, _]) rfl ?_
  exact lp1_X9_passes l _ ⟨Nat.zero_le _, Nat.zero_le _⟩ _ e V S hV ⟨rfl, rfl⟩ 0 (Nat.zero_le _) _ _
end
section
/-! 14.mhist: the reference: undone, kept, held aside; how long -/
theorem sw (x : Int32) (lo hi : Nat) (h : hi < 1000) : (x.toInt < (lo : Int) ∨ (hi : Int) < x.toInt) ∨ ∃ k : Nat, (lo ≤ k ∧ k ≤ hi) ∧ x = nI k := by
  by_cases h1 : x.toInt < (lo : Int)
  · exact Or.inl (Or.inl h1)
  · by_cases h2 : (hi : Int) < x.toInt
    · exact Or.inl (Or.inr h2)
    · refine Or.inr ⟨x.toInt.toNat, ⟨by omega, by omega⟩, ?_⟩
      apply Int32.toInt_inj.mp
      rw [nI_toInt (by omega)]
      omega
abbrev ePa (e : MR) : Nat → Int32 := e.2.2.2.2.2.1
abbrev eKn (e : MR) : Int32 := e.2.2.2.2.2.2.1
abbrev eIm (e : MR) : Nat → Int32 := e.2.2.2.2.2.2.2.1
abbrev eKe (e : MR) : Int32 := e.2.2.2.2.2.2.2.2.1
abbrev eAs (e : MR) : Nat → Int32 := e.2.2.2.2.2.2.2.2.2.2
abbrev sPK (e : MR) (p : Nat → Int32) (k : Int32) : MR := (e.1, e.2.1, e.2.2.1, e.2.2.2.1, e.2.2.2.2.1, p, k, e.2.2.2.2.2.2.2.1, e.2.2.2.2.2.2.2.2.1, e.2.2.2.2.2.2.2.2.2.1, e.2.2.2.2.2.2.2.2.2.2)
abbrev sIK (e : MR) (p : Nat → Int32) (k : Int32) : MR := (e.1, e.2.1, e.2.2.1, e.2.2.2.1, e.2.2.2.2.1, e.2.2.2.2.2.1, e.2.2.2.2.2.2.1, p, k, e.2.2.2.2.2.2.2.2.2.1, e.2.2.2.2.2.2.2.2.2.2)
abbrev sAs (e : MR) (a : Nat → Int32) : MR := (e.1, e.2.1, e.2.2.1, e.2.2.2.1, e.2.2.2.2.1, e.2.2.2.2.2.1, e.2.2.2.2.2.2.1, e.2.2.2.2.2.2.2.1, e.2.2.2.2.2.2.2.2.1, e.2.2.2.2.2.2.2.2.2.1, a)
abbrev sTx (e : MR) (t : Nat → Int32) (n : Int32) : MR := (t, n, e.2.2)
def wr (p : Nat → Int32) (q : Nat) (s : Nat → Int32) (k : Nat) : Nat → Int32 := fun j => if 23 * q ≤ j ∧ j < 23 * q + k then s (j - 23 * q) else p j
theorem wr_0 (p : Nat → Int32) (q : Nat) (s : Nat → Int32) : wr p q s 0 = p := by
  funext j; unfold wr; rw [if_neg (by omega)]
theorem wr_s (p : Nat → Int32) (q : Nat) (s : Nat → Int32) (k : Nat) : upd (wr p q s k) (23 * q + k) (s k) = wr p q s (k + 1) := by
  funext j
  unfold upd wr
  by_cases h : j = 23 * q + k
  · subst h
    rw [if_pos rfl, if_pos (by omega), Nat.add_sub_cancel_left]
  · rw [if_neg h]
    by_cases h2 : 23 * q ≤ j ∧ j < 23 * q + k
    · rw [if_pos h2, if_pos (by omega)]
    · rw [if_neg h2, if_neg (by omega)]
/-- the past behind one thing more that can be undone -/
def kpP (p : Nat → Int32) (kn : Nat) (s : Nat → Int32) : Nat → Int32 := if kn = 8 then wr (mix (fun j => p (j + 23)) p 161) 7 s 23 else wr p kn s 23
def kpK (kn : Nat) : Nat := if kn = 8 then 8 else kn + 1

set_option maxRecDepth 20000 in
theorem lp2_X9_keeps (l : Launch) (z : Nat × Nat × Nat) (hz : z.2.1 ≤ 0 ∧ z.2.2 ≤ 0) (Q : Option Value → List va_E → Prop) (e : MR) (to s p : Nat → Int32) (q : Nat) (hq : q < 8) (hQ : Q none (mw (sPK e (wr p q s 23) (nI (q + 1))) to s)) : ∀ k, k ≤ 23 → G l M_X9_keeps z Q 51 [some (.ref 0), some (.int (nI k))] [] (mw (sPK e (wr p q s k) (nI q)) to s) := by
  refine loopN (23) ?_ (fun k hk ih => ?_)
  ·
    refine g_iload_n (n := 52) dX9_keeps_51 rfl rfl ?_
    refine g_bipush (v := nI 23) (n := 54) dX9_keeps_52 (by decide) rfl ?_
    refine g_icmp_ge (tgt := 83) (n := 57) dX9_keeps_54 (by decide) rfl (fun c54 => ?_) (fun c54 => absurd (nI_le (Nat.le_refl _) (by decide)) c54)
    refine g_aload_n (n := 84) dX9_keeps_83 rfl rfl ?_
    refine g_dup (n := 85) dX9_keeps_84 rfl rfl ?_
    refine g_get (n := 88) fl_X9_88 dX9_keeps_85 rfl rfl rfl ?_
    refine g_iconst (v := nI 1) (n := 89) dX9_keeps_88 (by decide) rfl ?_
    refine g_iaddN (n := 90) dX9_keeps_89 rfl ?_
    refine g_put (n := 93) pf_X9_88 dX9_keeps_90 rfl (Nat.le_of_ble_eq_true rfl) (fun _ => rfl) (fun _ => rfl) rfl ?_
    refine g_wN (w' := [_, _, _, _, _, _, _, _, _]) rfl ?_
    exact g_vret dX9_keeps_93 rfl hz hQ
  ·
    refine g_iload_n (n := 52) dX9_keeps_51 rfl rfl ?_
    refine g_bipush (v := nI 23) (n := 54) dX9_keeps_52 (by decide) rfl ?_
    refine g_icmp_ge (tgt := 83) (n := 57) dX9_keeps_54 (by decide) rfl (fun c54 => absurd c54 (nI_ge hk (by decide))) (fun c54 => ?_)
    refine g_aload_n (n := 58) dX9_keeps_57 rfl rfl ?_
    refine g_get (n := 61) fl_X9_25 dX9_keeps_58 rfl rfl rfl ?_
    refine g_bipush (v := nI 23) (n := 63) dX9_keeps_61 (by decide) rfl ?_
    refine g_aload_n (n := 64) dX9_keeps_63 rfl rfl ?_
    refine g_get (n := 67) fl_X9_88 dX9_keeps_64 rfl rfl rfl ?_
    refine g_imulN (n := 68) dX9_keeps_67 rfl ?_
    refine g_iload_n (n := 69) dX9_keeps_68 rfl rfl ?_
    refine g_iaddN (n := 70) dX9_keeps_69 rfl ?_
    refine g_aload_n (n := 71) dX9_keeps_70 rfl rfl ?_
    refine g_get (n := 74) fl_X9_22 dX9_keeps_71 rfl rfl rfl ?_
    refine g_iload_n (n := 75) dX9_keeps_74 rfl rfl ?_
    refine g_ialdN (n := 76) dX9_keeps_75 rfl rfl (by decide) (by omega) ?_
    refine g_iastN (n := 77) dX9_keeps_76 rfl rfl (by decide) (by omega) ?_
    refine g_wN (w' := [_, _, _, _, _, _, _, _, _]) rfl ?_
    rw [wr_s]
    refine g_iincN (k := 1) (n := 80) dX9_keeps_77 rfl (by decide) rfl rfl ?_
    refine g_lsN (ls' := [_, _]) rfl ?_
    refine g_goto (tgt := 51) dX9_keeps_80 (by decide) ?_
    exact ih
set_option maxRecDepth 20000 in
theorem lp1_X9_keeps (l : Launch) (z : Nat × Nat × Nat) (hz : z.2.1 ≤ 0 ∧ z.2.2 ≤ 0) (Q : Option Value → List va_E → Prop) (e : MR) (to s p : Nat → Int32) (hQ : Q none (mw (sPK e (wr (mix (fun j => p (j + 23)) p 161) 7 s 23) (nI 8)) to s)) : ∀ k, k ≤ 161 → G l M_X9_keeps z Q 11 [some (.ref 0), some (.int (nI k))] [] (mw (sPK e (mix (fun j => p (j + 23)) p k) (nI 8)) to s) := by
  refine loopN (161) ?_ (fun k hk ih => ?_)
  ·
    refine g_iload_n (n := 12) dX9_keeps_11 rfl rfl ?_
    refine g_sipush (v := nI 161) (n := 15) dX9_keeps_12 (by decide) rfl ?_
    refine g_icmp_ge (tgt := 39) (n := 18) dX9_keeps_15 (by decide) rfl (fun c15 => ?_) (fun c15 => absurd (nI_le (Nat.le_refl _) (by decide)) c15)
    refine g_aload_n (n := 40) dX9_keeps_39 rfl rfl ?_
    refine g_dup (n := 41) dX9_keeps_40 rfl rfl ?_
    refine g_get (n := 44) fl_X9_88 dX9_keeps_41 rfl rfl rfl ?_
    refine g_iconst (v := nI 1) (n := 45) dX9_keeps_44 (by decide) rfl ?_
    refine g_isubN (n := 46) dX9_keeps_45 rfl (by decide) ?_
    refine g_put (n := 49) pf_X9_88 dX9_keeps_46 rfl (Nat.le_of_ble_eq_true rfl) (fun _ => rfl) (fun _ => rfl) rfl ?_
    refine g_wN (w' := [_, _, _, _, _, _, _, _, _]) rfl ?_
    refine g_iconst (v := nI 0) (n := 50) dX9_keeps_49 (by decide) rfl ?_
    refine g_istore_n (n := 51) dX9_keeps_50 (by decide) rfl rfl ?_
    refine g_lsN (ls' := [_, _]) rfl ?_
    have h2 := lp2_X9_keeps l z hz Q e to s (mix (fun j => p (j + 23)) p 161) 7 (by decide) hQ 0 (Nat.zero_le _)
    rw [wr_0] at h2
    exact h2
  ·
    refine g_iload_n (n := 12) dX9_keeps_11 rfl rfl ?_
    refine g_sipush (v := nI 161) (n := 15) dX9_keeps_12 (by decide) rfl ?_
    refine g_icmp_ge (tgt := 39) (n := 18) dX9_keeps_15 (by decide) rfl (fun c15 => absurd c15 (nI_ge hk (by decide))) (fun c15 => ?_)
    refine g_aload_n (n := 19) dX9_keeps_18 rfl rfl ?_
    refine g_get (n := 22) fl_X9_25 dX9_keeps_19 rfl rfl rfl ?_
    refine g_iload_n (n := 23) dX9_keeps_22 rfl rfl ?_
    refine g_aload_n (n := 24) dX9_keeps_23 rfl rfl ?_
    refine g_get (n := 27) fl_X9_25 dX9_keeps_24 rfl rfl rfl ?_
    refine g_iload_n (n := 28) dX9_keeps_27 rfl rfl ?_
    refine g_bipush (v := nI 23) (n := 30) dX9_keeps_28 (by decide) rfl ?_
    refine g_iaddN (n := 31) dX9_keeps_30 rfl ?_
    refine g_ialdN (n := 32) dX9_keeps_31 rfl rfl (by decide) (by omega) ?_
    refine g_top (y := p (k + 23)) (show mix (fun j => p (j + 23)) p k (k + 23) = p (k + 23) by unfold mix; rw [if_neg (by omega)]) ?_
    refine g_iastN (n := 33) dX9_keeps_32 rfl rfl (by decide) (by omega) ?_
    refine g_wN (w' := [_, _, _, _, _, _, _, _, _]) rfl ?_
    rw [mix_s (fun j => p (j + 23)) p k]
    refine g_iincN (k := 1) (n := 36) dX9_keeps_33 rfl (by decide) rfl rfl ?_
    refine g_lsN (ls' := [_, _]) rfl ?_
    refine g_goto (tgt := 11) dX9_keeps_36 (by decide) ?_
    exact ih
set_option maxRecDepth 20000 in
theorem t_X9_keeps (l : Launch) (e : MR) (to s : Nat → Int32) (kn : Nat) (hk8 : kn ≤ 8) (hk : eKn e = nI kn) : Fn l M_X9_keeps [.ref 0] (mw e to s) none (mw (sPK e (kpP (ePa e) kn s) (nI (kpK kn))) to s) := by
  refine con_of rfl rfl (Nat.le_of_ble_eq_true rfl) ?_
  refine g_lsN (ls' := [_, _]) rfl ?_
  refine g_aload_n (n := 1) dX9_keeps_0 rfl rfl ?_
  refine g_get (n := 4) fl_X9_88 dX9_keeps_1 rfl rfl rfl ?_
  refine g_top hk ?_
  refine g_bipush (v := nI 8) (n := 6) dX9_keeps_4 (by decide) rfl ?_
  refine g_icmp_ne (tgt := 49) (n := 9) dX9_keeps_6 (by decide) rfl (fun c6 => ?_) (fun c6 => ?_)
  ·
    have hn : ¬ kn = 8 := fun q => c6 (by rw [q])
    have h2 := lp2_X9_keeps l ((mw e to s).length, 0, 0) ⟨Nat.zero_le _, Nat.zero_le _⟩ (fun r u => r = none ∧ u = mw (sPK e (kpP (ePa e) kn s) (nI (kpK kn))) to s) e to s (ePa e) kn (by omega) ⟨rfl, by unfold kpP kpK; rw [if_neg hn, if_neg hn]⟩ 0 (Nat.zero_le _)
    rw [wr_0, ← hk] at h2
    refine g_iconst (v := nI 0) (n := 50) dX9_keeps_49 (by decide) rfl ?_
    refine g_istore_n (n := 51) dX9_keeps_50 (by decide) rfl rfl ?_
    refine g_lsN (ls' := [_, _]) rfl ?_
    exact h2
  ·
    have hn : kn = 8 := (nI_eq (by omega) (by omega)).mp c6
    subst hn
    have h1 := lp1_X9_keeps l ((mw e to s).length, 0, 0) ⟨Nat.zero_le _, Nat.zero_le _⟩ (fun r u => r = none ∧ u = mw (sPK e (kpP (ePa e) 8 s) (nI (kpK 8))) to s) e to s (ePa e) ⟨rfl, rfl⟩ 0 (Nat.zero_le _)
    rw [mix_0, ← hk] at h1
    refine g_iconst (v := nI 0) (n := 10) dX9_keeps_9 (by decide) rfl ?_
    refine g_istore_n (n := 11) dX9_keeps_10 (by decide) rfl rfl ?_
    refine g_lsN (ls' := [_, _]) rfl ?_
    exact h1
set_option maxRecDepth 20000 in
theorem lp_X9_holds (l : Launch) (z : Nat × Nat × Nat) (hz : z.2.1 ≤ 0 ∧ z.2.2 ≤ 0) (Q : Option Value → List va_E → Prop) (e : MR) (to s a : Nat → Int32) (hQ : Q none (mw (sAs e (mix s a 23)) to s)) : ∀ k, k ≤ 23 → G l M_X9_holds z Q 2 [some (.ref 0), some (.int (nI k))] [] (mw (sAs e (mix s a k)) to s) := by
  refine loopN (23) ?_ (fun k hk ih => ?_)
  ·
    refine g_iload_n (n := 3) dX9_holds_2 rfl rfl ?_
    refine g_bipush (v := nI 23) (n := 5) dX9_holds_3 (by decide) rfl ?_
    refine g_icmp_ge (tgt := 26) (n := 8) dX9_holds_5 (by decide) rfl (fun c5 => ?_) (fun c5 => absurd (nI_le (Nat.le_refl _) (by decide)) c5)
    exact g_vret dX9_holds_26 rfl hz hQ
  ·
    refine g_iload_n (n := 3) dX9_holds_2 rfl rfl ?_
    refine g_bipush (v := nI 23) (n := 5) dX9_holds_3 (by decide) rfl ?_
    refine g_icmp_ge (tgt := 26) (n := 8) dX9_holds_5 (by decide) rfl (fun c5 => absurd c5 (nI_ge hk (by decide))) (fun c5 => ?_)
    refine g_aload_n (n := 9) dX9_holds_8 rfl rfl ?_
    refine g_get (n := 12) fl_X9_31 dX9_holds_9 rfl rfl rfl ?_
    refine g_iload_n (n := 13) dX9_holds_12 rfl rfl ?_
    refine g_aload_n (n := 14) dX9_holds_13 rfl rfl ?_
    refine g_get (n := 17) fl_X9_22 dX9_holds_14 rfl rfl rfl ?_
    refine g_iload_n (n := 18) dX9_holds_17 rfl rfl ?_
    refine g_ialdN (n := 19) dX9_holds_18 rfl rfl (by decide) (by omega) ?_
    refine g_iastN (n := 20) dX9_holds_19 rfl rfl (by decide) (by omega) ?_
    refine g_wN (w' := [_, _, _, _, _, _, _, _, _]) rfl ?_
    rw [mix_s]
    refine g_iincN (k := 1) (n := 23) dX9_holds_20 rfl (by decide) rfl rfl ?_
    refine g_lsN (ls' := [_, _]) rfl ?_
    refine g_goto (tgt := 2) dX9_holds_23 (by decide) ?_
    exact ih
set_option maxRecDepth 20000 in
theorem lp_X9_lets (l : Launch) (z : Nat × Nat × Nat) (hz : z.2.1 ≤ 0 ∧ z.2.2 ≤ 0) (Q : Option Value → List va_E → Prop) (e : MR) (to s : Nat → Int32) (hQ : Q none (mw e to (mix (eAs e) s 23))) : ∀ k, k ≤ 23 → G l M_X9_lets z Q 2 [some (.ref 0), some (.int (nI k))] [] (mw e to (mix (eAs e) s k)) := by
  refine loopN (23) ?_ (fun k hk ih => ?_)
  ·
    refine g_iload_n (n := 3) dX9_lets_2 rfl rfl ?_
    refine g_bipush (v := nI 23) (n := 5) dX9_lets_3 (by decide) rfl ?_
    refine g_icmp_ge (tgt := 26) (n := 8) dX9_lets_5 (by decide) rfl (fun c5 => ?_) (fun c5 => absurd (nI_le (Nat.le_refl _) (by decide)) c5)
    exact g_vret dX9_lets_26 rfl hz hQ
  ·
    refine g_iload_n (n := 3) dX9_lets_2 rfl rfl ?_
    refine g_bipush (v := nI 23) (n := 5) dX9_lets_3 (by decide) rfl ?_
    refine g_icmp_ge (tgt := 26) (n := 8) dX9_lets_5 (by decide) rfl (fun c5 => absurd c5 (nI_ge hk (by decide))) (fun c5 => ?_)
    refine g_aload_n (n := 9) dX9_lets_8 rfl rfl ?_
    refine g_get (n := 12) fl_X9_22 dX9_lets_9 rfl rfl rfl ?_
    refine g_iload_n (n := 13) dX9_lets_12 rfl rfl ?_
    refine g_aload_n (n := 14) dX9_lets_13 rfl rfl ?_
    refine g_get (n := 17) fl_X9_31 dX9_lets_14 rfl rfl rfl ?_
    refine g_iload_n (n := 18) dX9_lets_17 rfl rfl ?_
    refine g_ialdN (n := 19) dX9_lets_18 rfl rfl (by decide) (by omega) ?_
    refine g_iastN (n := 20) dX9_lets_19 rfl rfl (by decide) (by omega) ?_
    refine g_wN (w' := [_, _, _, _, _, _, _, _, _]) rfl ?_
    rw [mix_s]
    refine g_iincN (k := 1) (n := 23) dX9_lets_20 rfl (by decide) rfl rfl ?_
    refine g_lsN (ls' := [_, _]) rfl ?_
    refine g_goto (tgt := 2) dX9_lets_23 (by decide) ?_
    exact ih
/-- nothing stands beyond the rows -/
def okZ (S : ST) : Prop := (∀ j, 6 ≤ j → sti S j = 0) ∧ (∀ j, 6 ≤ j → sbo S j = 0) ∧ (∀ j, 8 ≤ j → sun S j = 0)
theorem pk_big (S : ST) (h : okZ S) {j : Nat} (hj : 23 ≤ j) : pk S j = 0 := by
  unfold pk
  rw [if_neg (by omega), if_neg (by omega), if_neg (by omega), if_neg (by omega), if_neg (by omega)]
  exact h.2.2 _ (by omega)
theorem mix_23 {a b : Nat → Int32} (h : ∀ j, 23 ≤ j → a j = b j) : mix a b 23 = a := by
  funext j
  unfold mix
  by_cases hj : j < 23
  · rw [if_pos hj]
  · rw [if_neg hj, h j (by omega)]

set_option maxRecDepth 20000 in
theorem t_X9_holds (l : Launch) (e : MR) (to : Nat → Int32) (S : ST) (hS : okZ S) (ha : ∀ j, 23 ≤ j → eAs e j = 0) : Fn l M_X9_holds [.ref 0] (mw e to (pk S)) none (mw (sAs e (pk S)) to (pk S)) := by
  have em : mix (pk S) (eAs e) 23 = pk S := mix_23 (fun j hj => by rw [pk_big S hS hj, ha j hj])
  have h2 := lp_X9_holds l ((mw e to (pk S)).length, 0, 0) ⟨Nat.zero_le _, Nat.zero_le _⟩ (fun r u => r = none ∧ u = mw (sAs e (pk S)) to (pk S)) e to (pk S) (eAs e) ⟨rfl, by rw [em]⟩ 0 (Nat.zero_le _)
  rw [mix_0] at h2
  refine con_of rfl rfl (Nat.le_of_ble_eq_true rfl) ?_
  refine g_lsN (ls' := [_, _]) rfl ?_
  refine g_iconst (v := nI 0) (n := 1) dX9_holds_0 (by decide) rfl ?_
  refine g_istore_n (n := 2) dX9_holds_1 (by decide) rfl rfl ?_
  refine g_lsN (ls' := [_, _]) rfl ?_
  exact h2
set_option maxRecDepth 20000 in
theorem t_X9_lets (l : Launch) (e : MR) (to : Nat → Int32) (S S0 : ST) (hS : okZ S) (hS0 : okZ S0) (ha : eAs e = pk S0) : Fn l M_X9_lets [.ref 0] (mw e to (pk S)) none (mw e to (pk S0)) := by
  have em : mix (eAs e) (pk S) 23 = pk S0 := by
    rw [ha]
    exact mix_23 (fun j hj => by rw [pk_big S hS hj, pk_big S0 hS0 hj])
  have h2 := lp_X9_lets l ((mw e to (pk S)).length, 0, 0) ⟨Nat.zero_le _, Nat.zero_le _⟩ (fun r u => r = none ∧ u = mw e to (pk S0)) e to (pk S) ⟨rfl, by rw [em]⟩ 0 (Nat.zero_le _)
  rw [mix_0] at h2
  refine con_of rfl rfl (Nat.le_of_ble_eq_true rfl) ?_
  refine g_lsN (ls' := [_, _]) rfl ?_
  refine g_iconst (v := nI 0) (n := 1) dX9_lets_0 (by decide) rfl ?_
  refine g_istore_n (n := 2) dX9_lets_1 (by decide) rfl rfl ?_
  refine g_lsN (ls' := [_, _]) rfl ?_
  exact h2
set_option maxRecDepth 20000 in
theorem lp_X9_undo (l : Launch) (z : Nat × Nat × Nat) (hz : z.2.1 ≤ 0 ∧ z.2.2 ≤ 0) (Q : Option Value → List va_E → Prop) (e : MR) (to s : Nat → Int32) (q : Nat) (hq : q < 8) (hQ : Q (some (.int (nI q))) (mw (sPK e (ePa e) (nI q)) to (mix (fun j => ePa e (23 * q + j)) s 23))) : ∀ k, k ≤ 23 → G l M_X9_undo z Q 22 [some (.ref 0), some (.int (nI k))] [] (mw (sPK e (ePa e) (nI q)) to (mix (fun j => ePa e (23 * q + j)) s k)) := by
  refine loopN (23) ?_ (fun k hk ih => ?_)
  ·
    refine g_iload_n (n := 23) dX9_undo_22 rfl rfl ?_
    refine g_bipush (v := nI 23) (n := 25) dX9_undo_23 (by decide) rfl ?_
    refine g_icmp_ge (tgt := 54) (n := 28) dX9_undo_25 (by decide) rfl (fun c25 => ?_) (fun c25 => absurd (nI_le (Nat.le_refl _) (by decide)) c25)
    refine g_aload_n (n := 55) dX9_undo_54 rfl rfl ?_
    refine g_get (n := 58) fl_X9_88 dX9_undo_55 rfl rfl rfl ?_
    exact g_iret (ty := .int) dX9_undo_58 rfl rfl hz hQ
  ·
    refine g_iload_n (n := 23) dX9_undo_22 rfl rfl ?_
    refine g_bipush (v := nI 23) (n := 25) dX9_undo_23 (by decide) rfl ?_
    refine g_icmp_ge (tgt := 54) (n := 28) dX9_undo_25 (by decide) rfl (fun c25 => absurd c25 (nI_ge hk (by decide))) (fun c25 => ?_)
    refine g_aload_n (n := 29) dX9_undo_28 rfl rfl ?_
    refine g_get (n := 32) fl_X9_22 dX9_undo_29 rfl rfl rfl ?_
    refine g_iload_n (n := 33) dX9_undo_32 rfl rfl ?_
    refine g_aload_n (n := 34) dX9_undo_33 rfl rfl ?_
    refine g_get (n := 37) fl_X9_25 dX9_undo_34 rfl rfl rfl ?_
    refine g_bipush (v := nI 23) (n := 39) dX9_undo_37 (by decide) rfl ?_
    refine g_aload_n (n := 40) dX9_undo_39 rfl rfl ?_
    refine g_get (n := 43) fl_X9_88 dX9_undo_40 rfl rfl rfl ?_
    refine g_imulN (n := 44) dX9_undo_43 rfl ?_
    refine g_iload_n (n := 45) dX9_undo_44 rfl rfl ?_
    refine g_iaddN (n := 46) dX9_undo_45 rfl ?_
    refine g_ialdN (n := 47) dX9_undo_46 rfl rfl (by decide) (by omega) ?_
    refine g_iastN (n := 48) dX9_undo_47 rfl rfl (by decide) (by omega) ?_
    refine g_wN (w' := [_, _, _, _, _, _, _, _, _]) rfl ?_
    rw [mix_s (fun j => ePa e (23 * q + j)) s k]
    refine g_iincN (k := 1) (n := 51) dX9_undo_48 rfl (by decide) rfl rfl ?_
    refine g_lsN (ls' := [_, _]) rfl ?_
    refine g_goto (tgt := 22) dX9_undo_51 (by decide) ?_
    exact ih
set_option maxRecDepth 20000 in
theorem t_X9_undo (l : Launch) (e : MR) (to s : Nat → Int32) (kn : Nat) (hk8 : kn ≤ 8) (hk : eKn e = nI kn) : Fn l M_X9_undo [.ref 0] (mw e to s) (some (.int (if kn = 0 then (-2) else nI (kn - 1)))) (mw (sPK e (ePa e) (nI (kn - 1))) to (if kn = 0 then s else mix (fun j => ePa e (23 * (kn - 1) + j)) s 23)) := by
  refine con_of rfl rfl (Nat.le_of_ble_eq_true rfl) ?_
  refine g_lsN (ls' := [_, _]) rfl ?_
  refine g_aload_n (n := 1) dX9_undo_0 rfl rfl ?_
  refine g_get (n := 4) fl_X9_88 dX9_undo_1 rfl rfl rfl ?_
  refine g_top hk ?_
  refine g_if_ne (tgt := 10) (n := 7) dX9_undo_4 (by decide) rfl (fun c4 => ?_) (fun c4 => ?_)
  ·
    have hn : ¬ kn = 0 := fun q => c4 (by rw [q]; rfl)
    have h2 := lp_X9_undo l ((mw e to s).length, 0, 0) ⟨Nat.zero_le _, Nat.zero_le _⟩ (fun r u => r = some (.int (if kn = 0 then (-2) else nI (kn - 1))) ∧ u = (mw (sPK e (ePa e) (nI (kn - 1))) to (if kn = 0 then s else mix (fun j => ePa e (23 * (kn - 1) + j)) s 23))) e to s (kn - 1) (by omega) ⟨by rw [if_neg hn], by rw [if_neg hn]⟩ 0 (Nat.zero_le _)
    rw [mix_0] at h2
    refine g_aload_n (n := 11) dX9_undo_10 rfl rfl ?_
    refine g_dup (n := 12) dX9_undo_11 rfl rfl ?_
    refine g_get (n := 15) fl_X9_88 dX9_undo_12 rfl rfl rfl ?_
    refine g_top hk ?_
    refine g_iconst (v := nI 1) (n := 16) dX9_undo_15 (by decide) rfl ?_
    refine g_isubN (n := 17) dX9_undo_16 rfl (by omega) ?_
    refine g_put (n := 20) pf_X9_88 dX9_undo_17 rfl (Nat.le_of_ble_eq_true rfl) (fun _ => rfl) (fun _ => rfl) rfl ?_
    refine g_wN (w' := [_, _, _, _, _, _, _, _, _]) rfl ?_
    refine g_iconst (v := nI 0) (n := 21) dX9_undo_20 (by decide) rfl ?_
    refine g_istore_n (n := 22) dX9_undo_21 (by decide) rfl rfl ?_
    refine g_lsN (ls' := [_, _]) rfl ?_
    exact h2
  ·
    have hn : kn = 0 := by
      rcases Nat.eq_zero_or_pos kn with q | q
      · exact q
      · exact absurd c4 (nI_ne0 q (by omega))
    subst hn
    refine g_bipush (v := (-2)) (n := 9) dX9_undo_7 (by decide) rfl ?_
    exact g_iret (ty := .int) dX9_undo_9 rfl rfl ⟨Nat.zero_le _, Nat.zero_le _⟩ ⟨rfl, by rw [if_pos rfl, ← hk]⟩
set_option maxRecDepth 20000 in
theorem lp_X9_keep (l : Launch) (z : Nat × Nat × Nat) (hz : z.2.1 ≤ 0 ∧ z.2.2 ≤ 0) (Q : Option Value → List va_E → Prop) (e : MR) (to s p : Nat → Int32) (q : Nat) (hq : q < 2) (hQ : Q (some (.int (nI (q + 1)))) (mw (sIK e (wr p q s 23) (nI (q + 1))) to s)) : ∀ k, k ≤ 23 → G l M_X9_keep z Q 13 [some (.ref 0), some (.int (nI k))] [] (mw (sIK e (wr p q s k) (nI q)) to s) := by
  refine loopN (23) ?_ (fun k hk ih => ?_)
  ·
    refine g_iload_n (n := 14) dX9_keep_13 rfl rfl ?_
    refine g_bipush (v := nI 23) (n := 16) dX9_keep_14 (by decide) rfl ?_
    refine g_icmp_ge (tgt := 45) (n := 19) dX9_keep_16 (by decide) rfl (fun c16 => ?_) (fun c16 => absurd (nI_le (Nat.le_refl _) (by decide)) c16)
    refine g_aload_n (n := 46) dX9_keep_45 rfl rfl ?_
    refine g_dup (n := 47) dX9_keep_46 rfl rfl ?_
    refine g_get (n := 50) fl_X9_91 dX9_keep_47 rfl rfl rfl ?_
    refine g_iconst (v := nI 1) (n := 51) dX9_keep_50 (by decide) rfl ?_
    refine g_iaddN (n := 52) dX9_keep_51 rfl ?_
    refine g_put (n := 55) pf_X9_91 dX9_keep_52 rfl (Nat.le_of_ble_eq_true rfl) (fun _ => rfl) (fun _ => rfl) rfl ?_
    refine g_wN (w' := [_, _, _, _, _, _, _, _, _]) rfl ?_
    refine g_aload_n (n := 56) dX9_keep_55 rfl rfl ?_
    refine g_get (n := 59) fl_X9_91 dX9_keep_56 rfl rfl rfl ?_
    exact g_iret (ty := .int) dX9_keep_59 rfl rfl hz hQ
  ·
    refine g_iload_n (n := 14) dX9_keep_13 rfl rfl ?_
    refine g_bipush (v := nI 23) (n := 16) dX9_keep_14 (by decide) rfl ?_
    refine g_icmp_ge (tgt := 45) (n := 19) dX9_keep_16 (by decide) rfl (fun c16 => absurd c16 (nI_ge hk (by decide))) (fun c16 => ?_)
    refine g_aload_n (n := 20) dX9_keep_19 rfl rfl ?_
    refine g_get (n := 23) fl_X9_28 dX9_keep_20 rfl rfl rfl ?_
    refine g_bipush (v := nI 23) (n := 25) dX9_keep_23 (by decide) rfl ?_
    refine g_aload_n (n := 26) dX9_keep_25 rfl rfl ?_
    refine g_get (n := 29) fl_X9_91 dX9_keep_26 rfl rfl rfl ?_
    refine g_imulN (n := 30) dX9_keep_29 rfl ?_
    refine g_iload_n (n := 31) dX9_keep_30 rfl rfl ?_
    refine g_iaddN (n := 32) dX9_keep_31 rfl ?_
    refine g_aload_n (n := 33) dX9_keep_32 rfl rfl ?_
    refine g_get (n := 36) fl_X9_22 dX9_keep_33 rfl rfl rfl ?_
    refine g_iload_n (n := 37) dX9_keep_36 rfl rfl ?_
    refine g_ialdN (n := 38) dX9_keep_37 rfl rfl (by decide) (by omega) ?_
    refine g_iastN (n := 39) dX9_keep_38 rfl rfl (by decide) (by omega) ?_
    refine g_wN (w' := [_, _, _, _, _, _, _, _, _]) rfl ?_
    rw [wr_s]
    refine g_iincN (k := 1) (n := 42) dX9_keep_39 rfl (by decide) rfl rfl ?_
    refine g_lsN (ls' := [_, _]) rfl ?_
    refine g_goto (tgt := 13) dX9_keep_42 (by decide) ?_
    exact ih
set_option maxRecDepth 20000 in
theorem t_X9_keep (l : Launch) (e : MR) (to s : Nat → Int32) (ke : Nat) (hk8 : ke ≤ 2) (hk : eKe e = nI ke) : Fn l M_X9_keep [.ref 0] (mw e to s) (some (.int (if ke = 2 then (-3) else nI (ke + 1)))) (mw (if ke = 2 then e else sIK e (wr (eIm e) ke s 23) (nI (ke + 1))) to s) := by
  refine con_of rfl rfl (Nat.le_of_ble_eq_true rfl) ?_
  refine g_lsN (ls' := [_, _]) rfl ?_
  refine g_aload_n (n := 1) dX9_keep_0 rfl rfl ?_
  refine g_get (n := 4) fl_X9_91 dX9_keep_1 rfl rfl rfl ?_
  refine g_top hk ?_
  refine g_iconst (v := nI 2) (n := 5) dX9_keep_4 (by decide) rfl ?_
  refine g_icmp_ne (tgt := 11) (n := 8) dX9_keep_5 (by decide) rfl (fun c5 => ?_) (fun c5 => ?_)
  ·
    have hn : ¬ ke = 2 := fun q => c5 (by rw [q])
    have h2 := lp_X9_keep l ((mw e to s).length, 0, 0) ⟨Nat.zero_le _, Nat.zero_le _⟩ (fun r u => r = some (.int (if ke = 2 then (-3) else nI (ke + 1))) ∧ u = (mw (if ke = 2 then e else sIK e (wr (eIm e) ke s 23) (nI (ke + 1))) to s)) e to s (eIm e) ke (by omega) ⟨by rw [if_neg hn], by rw [if_neg hn]⟩ 0 (Nat.zero_le _)
    rw [wr_0, ← hk] at h2
    refine g_iconst (v := nI 0) (n := 12) dX9_keep_11 (by decide) rfl ?_
    refine g_istore_n (n := 13) dX9_keep_12 (by decide) rfl rfl ?_
    refine g_lsN (ls' := [_, _]) rfl ?_
    exact h2
  ·
    have hn : ke = 2 := (nI_eq (by omega) (by omega)).mp c5
    subst hn
    refine g_bipush (v := (-3)) (n := 10) dX9_keep_8 (by decide) rfl ?_
    exact g_iret (ty := .int) dX9_keep_10 rfl rfl ⟨Nat.zero_le _, Nat.zero_le _⟩ ⟨rfl, rfl⟩
set_option maxRecDepth 20000 in
theorem lp_X9_back (l : Launch) (z : Nat × Nat × Nat) (hz : z.2.1 ≤ 0 ∧ z.2.2 ≤ 0) (Q : Option Value → List va_E → Prop) (e : MR) (to s : Nat → Int32) (q : Nat) (hq : q < 2) (hQ : Q (some (.int (nI q))) (mw (sPK (sIK e (eIm e) (nI q)) (ePa e) (nI 0)) to (mix (fun j => eIm e (23 * q + j)) s 23))) : ∀ k, k ≤ 23 → G l M_X9_back z Q 22 [some (.ref 0), some (.int (nI k))] [] (mw (sIK e (eIm e) (nI q)) to (mix (fun j => eIm e (23 * q + j)) s k)) := by
  refine loopN (23) ?_ (fun k hk ih => ?_)
  ·
    refine g_iload_n (n := 23) dX9_back_22 rfl rfl ?_
    refine g_bipush (v := nI 23) (n := 25) dX9_back_23 (by decide) rfl ?_
    refine g_icmp_ge (tgt := 54) (n := 28) dX9_back_25 (by decide) rfl (fun c25 => ?_) (fun c25 => absurd (nI_le (Nat.le_refl _) (by decide)) c25)
    refine g_aload_n (n := 55) dX9_back_54 rfl rfl ?_
    refine g_iconst (v := nI 0) (n := 56) dX9_back_55 (by decide) rfl ?_
    refine g_put (n := 59) pf_X9_88 dX9_back_56 rfl (Nat.le_of_ble_eq_true rfl) (fun _ => rfl) (fun _ => rfl) rfl ?_
    refine g_wN (w' := [_, _, _, _, _, _, _, _, _]) rfl ?_
    refine g_aload_n (n := 60) dX9_back_59 rfl rfl ?_
    refine g_get (n := 63) fl_X9_91 dX9_back_60 rfl rfl rfl ?_
    exact g_iret (ty := .int) dX9_back_63 rfl rfl hz hQ
  ·
    refine g_iload_n (n := 23) dX9_back_22 rfl rfl ?_
    refine g_bipush (v := nI 23) (n := 25) dX9_back_23 (by decide) rfl ?_
    refine g_icmp_ge (tgt := 54) (n := 28) dX9_back_25 (by decide) rfl (fun c25 => absurd c25 (nI_ge hk (by decide))) (fun c25 => ?_)
    refine g_aload_n (n := 29) dX9_back_28 rfl rfl ?_
    refine g_get (n := 32) fl_X9_22 dX9_back_29 rfl rfl rfl ?_
    refine g_iload_n (n := 33) dX9_back_32 rfl rfl ?_
    refine g_aload_n (n := 34) dX9_back_33 rfl rfl ?_
    refine g_get (n := 37) fl_X9_28 dX9_back_34 rfl rfl rfl ?_
    refine g_bipush (v := nI 23) (n := 39) dX9_back_37 (by decide) rfl ?_
    refine g_aload_n (n := 40) dX9_back_39 rfl rfl ?_
    refine g_get (n := 43) fl_X9_91 dX9_back_40 rfl rfl rfl ?_
    refine g_imulN (n := 44) dX9_back_43 rfl ?_
    refine g_iload_n (n := 45) dX9_back_44 rfl rfl ?_
    refine g_iaddN (n := 46) dX9_back_45 rfl ?_
    refine g_ialdN (n := 47) dX9_back_46 rfl rfl (by decide) (by omega) ?_
    refine g_iastN (n := 48) dX9_back_47 rfl rfl (by decide) (by omega) ?_
    refine g_wN (w' := [_, _, _, _, _, _, _, _, _]) rfl ?_
    rw [mix_s (fun j => eIm e (23 * q + j)) s k]
    refine g_iincN (k := 1) (n := 51) dX9_back_48 rfl (by decide) rfl rfl ?_
    refine g_lsN (ls' := [_, _]) rfl ?_
    refine g_goto (tgt := 22) dX9_back_51 (by decide) ?_
    exact ih
set_option maxRecDepth 20000 in
theorem t_X9_back (l : Launch) (e : MR) (to s : Nat → Int32) (ke : Nat) (hk8 : ke ≤ 2) (hk : eKe e = nI ke) : Fn l M_X9_back [.ref 0] (mw e to s) (some (.int (if ke = 0 then (-2) else nI (ke - 1)))) (mw (if ke = 0 then e else sPK (sIK e (eIm e) (nI (ke - 1))) (ePa e) (nI 0)) to (if ke = 0 then s else mix (fun j => eIm e (23 * (ke - 1) + j)) s 23)) := by
  refine con_of rfl rfl (Nat.le_of_ble_eq_true rfl) ?_
  refine g_lsN (ls' := [_, _]) rfl ?_
  refine g_aload_n (n := 1) dX9_back_0 rfl rfl ?_
  refine g_get (n := 4) fl_X9_91 dX9_back_1 rfl rfl rfl ?_
  refine g_top hk ?_
  refine g_if_ne (tgt := 10) (n := 7) dX9_back_4 (by decide) rfl (fun c4 => ?_) (fun c4 => ?_)
  ·
    have hn : ¬ ke = 0 := fun q => c4 (by rw [q]; rfl)
    have h2 := lp_X9_back l ((mw e to s).length, 0, 0) ⟨Nat.zero_le _, Nat.zero_le _⟩ (fun r u => r = some (.int (if ke = 0 then (-2) else nI (ke - 1))) ∧ u = (mw (if ke = 0 then e else sPK (sIK e (eIm e) (nI (ke - 1))) (ePa e) (nI 0)) to (if ke = 0 then s else mix (fun j => eIm e (23 * (ke - 1) + j)) s 23))) e to s (ke - 1) (by omega) ⟨by rw [if_neg hn], by rw [if_neg hn, if_neg hn]⟩ 0 (Nat.zero_le _)
    rw [mix_0] at h2
    refine g_aload_n (n := 11) dX9_back_10 rfl rfl ?_
    refine g_dup (n := 12) dX9_back_11 rfl rfl ?_
    refine g_get (n := 15) fl_X9_91 dX9_back_12 rfl rfl rfl ?_
    refine g_top hk ?_
    refine g_iconst (v := nI 1) (n := 16) dX9_back_15 (by decide) rfl ?_
    refine g_isubN (n := 17) dX9_back_16 rfl (by omega) ?_
    refine g_put (n := 20) pf_X9_91 dX9_back_17 rfl (Nat.le_of_ble_eq_true rfl) (fun _ => rfl) (fun _ => rfl) rfl ?_
    refine g_wN (w' := [_, _, _, _, _, _, _, _, _]) rfl ?_
    refine g_iconst (v := nI 0) (n := 21) dX9_back_20 (by decide) rfl ?_
    refine g_istore_n (n := 22) dX9_back_21 (by decide) rfl rfl ?_
    refine g_lsN (ls' := [_, _]) rfl ?_
    exact h2
  ·
    have hn : ke = 0 := by
      rcases Nat.eq_zero_or_pos ke with q | q
      · exact q
      · exact absurd c4 (nI_ne0 q (by omega))
    subst hn
    refine g_bipush (v := (-2)) (n := 9) dX9_back_7 (by decide) rfl ?_
    exact g_iret (ty := .int) dX9_back_9 rfl rfl ⟨Nat.zero_le _, Nat.zero_le _⟩ ⟨rfl, rfl⟩
/-- how many hours go by until another bay falls, at most n; and how things stand then -/
def flR (V : WT) (fa : Int32) : Nat → ST → Nat × ST
  | 0, S => (0, S)
  | n + 1, S => if sfa S = fa then ((flR V fa n (psF V S)).1 + 1, (flR V fa n (psF V S)).2) else (0, S)

set_option maxRecDepth 20000 in
theorem lp_X9_falls (l : Launch) (z : Nat × Nat × Nat) (hz : z.2.1 ≤ 0 ∧ z.2.2 ≤ 0) (Q : Option Value → List va_E → Prop) (e : MR) (V : WT) (hV : okV V) (fa : Int32) (lim : Nat) (hl : lim ≤ 100) : ∀ (n k : Nat) (S : ST), k + n = lim + 1 → Q (some (.int (nI (k + (flR V fa n S).1)))) (mw e (tk V) (pk (flR V fa n S).2)) → G l M_X9_falls z Q 9 [some (.ref 0), some (.int (nI lim)), some (.int fa), some (.int (nI k))] [] (mw e (tk V) (pk S)) := by
  intro n
  induction n with
  | zero =>
    intro k S hk hQ
    have hk2 : k = lim + 1 := by omega
    subst hk2
    refine g_iload_n (n := 10) dX9_falls_9 rfl rfl ?_
    refine g_iload_n (n := 11) dX9_falls_10 rfl rfl ?_
    refine g_iconst (v := nI 1) (n := 12) dX9_falls_11 (by decide) rfl ?_
    refine g_iaddN (n := 13) dX9_falls_12 rfl ?_
    refine g_icmp_ge (tgt := 36) (n := 16) dX9_falls_13 (by decide) rfl (fun c13 => ?_) (fun c13 => absurd (nI_le (Nat.le_refl _) (by omega)) c13)
    refine g_iload_n (n := 37) dX9_falls_36 rfl rfl ?_
    exact g_iret (ty := .int) dX9_falls_37 rfl rfl hz hQ
  | succ n ih =>
    intro k S hk hQ
    refine g_iload_n (n := 10) dX9_falls_9 rfl rfl ?_
    refine g_iload_n (n := 11) dX9_falls_10 rfl rfl ?_
    refine g_iconst (v := nI 1) (n := 12) dX9_falls_11 (by decide) rfl ?_
    refine g_iaddN (n := 13) dX9_falls_12 rfl ?_
    refine g_icmp_ge (tgt := 36) (n := 16) dX9_falls_13 (by decide) rfl (fun c13 => absurd c13 (nI_ge (show k < lim + 1 by omega) (by omega))) (fun c13 => ?_)
    refine g_aload_n (n := 17) dX9_falls_16 rfl rfl ?_
    refine g_get (n := 20) fl_X9_22 dX9_falls_17 rfl rfl rfl ?_
    refine g_iconst (v := nI 2) (n := 21) dX9_falls_20 (by decide) rfl ?_
    refine g_ialdN (n := 22) dX9_falls_21 rfl rfl (by decide) (by omega) ?_
    refine g_top (sk_2 _) ?_
    refine g_iload_n (n := 23) dX9_falls_22 rfl rfl ?_
    refine g_icmp_ne (tgt := 36) (n := 26) dX9_falls_23 (by decide) rfl (fun c23 => ?_) (fun c23 => ?_)
    ·
      have e1 : flR V fa (n + 1) S = (0, S) := by rw [flR, if_neg c23]
      rw [e1] at hQ
      refine g_iload_n (n := 37) dX9_falls_36 rfl rfl ?_
      exact g_iret (ty := .int) dX9_falls_37 rfl rfl hz hQ
    ·
      have e1 : flR V fa (n + 1) S = ((flR V fa n (psF V S)).1 + 1, (flR V fa n (psF V S)).2) := by rw [flR, if_pos c23]
      rw [e1] at hQ
      rw [show k + ((flR V fa n (psF V S)).1 + 1) = k + 1 + (flR V fa n (psF V S)).1 by omega] at hQ
      refine g_aload_n (n := 27) dX9_falls_26 rfl rfl ?_
      refine g_callWv (n := 30) cv_X9_134 (t_X9_passes l _ _ _ hV) dX9_falls_27 rfl ⟨by decide, by decide, rfl, rfl, hz.1, hz.2⟩ rfl rfl rfl (Nat.le_of_ble_eq_true rfl) rfl rfl ?_
      refine g_iincN (k := 1) (n := 33) dX9_falls_30 rfl (by decide) rfl rfl ?_
      refine g_lsN (ls' := [_, _, _, _]) rfl ?_
      refine g_goto (tgt := 9) dX9_falls_33 (by decide) ?_
      exact ih (k + 1) (psF V S) (by omega) hQ
set_option maxRecDepth 20000 in
theorem t_X9_falls (l : Launch) (e : MR) (V : WT) (S : ST) (hV : okV V) (lim : Nat) (hl : lim ≤ 100) : Fn l M_X9_falls [.ref 0, .int (nI lim)] (mw e (tk V) (pk S)) (some (.int (nI (flR V (sfa S) (lim + 1) S).1))) (mw e (tk V) (pk (flR V (sfa S) (lim + 1) S).2)) := by
  refine con_of rfl rfl (Nat.le_of_ble_eq_true rfl) ?_
  refine g_lsN (ls' := [_, _, _, _]) rfl ?_
  refine g_aload_n (n := 1) dX9_falls_0 rfl rfl ?_
  refine g_get (n := 4) fl_X9_22 dX9_falls_1 rfl rfl rfl ?_
  refine g_iconst (v := nI 2) (n := 5) dX9_falls_4 (by decide) rfl ?_
  refine g_ialdN (n := 6) dX9_falls_5 rfl rfl (by decide) (by omega) ?_
  refine g_top (sk_2 _) ?_
  refine g_istore_n (n := 7) dX9_falls_6 (by decide) rfl rfl ?_
  refine g_lsN (ls' := [_, _, _, _]) rfl ?_
  refine g_iconst (v := nI 0) (n := 8) dX9_falls_7 (by decide) rfl ?_
  refine g_istore_n (n := 9) dX9_falls_8 (by decide) rfl rfl ?_
  refine g_lsN (ls' := [_, _, _, _]) rfl ?_
  exact lp_X9_falls l _ ⟨Nat.zero_le _, Nat.zero_le _⟩ _ e V hV (sfa S) lim hl (lim + 1) 0 S (by omega) ⟨by rw [Nat.zero_add], rfl⟩
end
