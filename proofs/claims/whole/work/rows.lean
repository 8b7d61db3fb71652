section
-- ===== PART A: goes FIRST, ahead of the names: the tables' words, and 'selects' of the private methods out of them =====
/-- a private method of a class that the tables say can be made, by its rows of tables_1 -/
def lw_okq (q : MethodName × Nat) : Prop := (q.1.cls ≠ "java/lang/invoke/MethodHandle" ∧ q.1.cls ≠ "java/lang/invoke/VarHandle") ∧ Cond.instantiable q.1.cls q.2 ∈ tables_1 ∧ Cond.privateMethod q.1 ∈ tables_1 ∧ Cond.instanceMethod q.1 ∈ tables_1
theorem lw_p0 : lw_okq (⟨"SiteswapStudio$Draft", "firstUneven", "()I"⟩, 6) := ⟨⟨by decide +kernel, by decide +kernel⟩, List.mem_of_getElem? (i := 27) (by decide +kernel), List.mem_of_getElem? (i := 186) (by decide +kernel), List.mem_of_getElem? (i := 187) (by decide +kernel)⟩
theorem lw_p1 : lw_okq (⟨"SiteswapStudio$Draft", "landingSite", "(II)I"⟩, 6) := ⟨⟨by decide +kernel, by decide +kernel⟩, List.mem_of_getElem? (i := 27) (by decide +kernel), List.mem_of_getElem? (i := 194) (by decide +kernel), List.mem_of_getElem? (i := 195) (by decide +kernel)⟩
theorem lw_p2 : lw_okq (⟨"SiteswapStudio$Draft", "firstMeeting", "()I"⟩, 6) := ⟨⟨by decide +kernel, by decide +kernel⟩, List.mem_of_getElem? (i := 27) (by decide +kernel), List.mem_of_getElem? (i := 205) (by decide +kernel), List.mem_of_getElem? (i := 206) (by decide +kernel)⟩
theorem lw_p3 : lw_okq (⟨"java/lang/Throwable", "fillInStackTrace", "(I)Ljava/lang/Throwable;"⟩, 6) := ⟨⟨by decide +kernel, by decide +kernel⟩, List.mem_of_getElem? (i := 273) (by decide +kernel), List.mem_of_getElem? (i := 271) (by decide +kernel), List.mem_of_getElem? (i := 272) (by decide +kernel)⟩
theorem lw_p4 : lw_okq (⟨"SiteswapStudio", "requireSite", "(I)V"⟩, 6) := ⟨⟨by decide +kernel, by decide +kernel⟩, List.mem_of_getElem? (i := 19) (by decide +kernel), List.mem_of_getElem? (i := 319) (by decide +kernel), List.mem_of_getElem? (i := 320) (by decide +kernel)⟩
theorem lw_p5 : lw_okq (⟨"SiteswapStudio", "requireValid", "()V"⟩, 6) := ⟨⟨by decide +kernel, by decide +kernel⟩, List.mem_of_getElem? (i := 19) (by decide +kernel), List.mem_of_getElem? (i := 393) (by decide +kernel), List.mem_of_getElem? (i := 394) (by decide +kernel)⟩
theorem lw_p6 : lw_okq (⟨"SiteswapStudio", "requirePlain", "()V"⟩, 6) := ⟨⟨by decide +kernel, by decide +kernel⟩, List.mem_of_getElem? (i := 19) (by decide +kernel), List.mem_of_getElem? (i := 409) (by decide +kernel), List.mem_of_getElem? (i := 410) (by decide +kernel)⟩
theorem lw_p7 : lw_okq (⟨"SiteswapStudio$Draft", "isRotationLess", "(II)Z"⟩, 6) := ⟨⟨by decide +kernel, by decide +kernel⟩, List.mem_of_getElem? (i := 27) (by decide +kernel), List.mem_of_getElem? (i := 441) (by decide +kernel), List.mem_of_getElem? (i := 442) (by decide +kernel)⟩
theorem lw_p8 : lw_okq (⟨"SiteswapStudio$Joint", "measureDistances", "(LSiteswapStudio$Draft;)V"⟩, 8) := ⟨⟨by decide +kernel, by decide +kernel⟩, List.mem_of_getElem? (i := 58) (by decide +kernel), List.mem_of_getElem? (i := 521) (by decide +kernel), List.mem_of_getElem? (i := 522) (by decide +kernel)⟩
theorem lw_p9 : lw_okq (⟨"SiteswapStudio$Joint", "reach", "(II)V"⟩, 8) := ⟨⟨by decide +kernel, by decide +kernel⟩, List.mem_of_getElem? (i := 58) (by decide +kernel), List.mem_of_getElem? (i := 527) (by decide +kernel), List.mem_of_getElem? (i := 528) (by decide +kernel)⟩
theorem lw_p10 : lw_okq (⟨"SiteswapStudio$Joint", "nearestSite", "(LSiteswapStudio$Draft;)I"⟩, 8) := ⟨⟨by decide +kernel, by decide +kernel⟩, List.mem_of_getElem? (i := 58) (by decide +kernel), List.mem_of_getElem? (i := 534) (by decide +kernel), List.mem_of_getElem? (i := 535) (by decide +kernel)⟩
theorem lw_p11 : lw_okq (⟨"SiteswapStudio$Joint", "distanceOf", "(LSiteswapStudio$Draft;I)I"⟩, 8) := ⟨⟨by decide +kernel, by decide +kernel⟩, List.mem_of_getElem? (i := 58) (by decide +kernel), List.mem_of_getElem? (i := 538) (by decide +kernel), List.mem_of_getElem? (i := 539) (by decide +kernel)⟩
theorem lw_p12 : lw_okq (⟨"SiteswapStudio$Joint", "walk", "(I)I"⟩, 8) := ⟨⟨by decide +kernel, by decide +kernel⟩, List.mem_of_getElem? (i := 58) (by decide +kernel), List.mem_of_getElem? (i := 542) (by decide +kernel), List.mem_of_getElem? (i := 543) (by decide +kernel)⟩
theorem lw_p13 : lw_okq (⟨"SiteswapStudio$Joint", "leastThrow", "(II)I"⟩, 8) := ⟨⟨by decide +kernel, by decide +kernel⟩, List.mem_of_getElem? (i := 58) (by decide +kernel), List.mem_of_getElem? (i := 546) (by decide +kernel), List.mem_of_getElem? (i := 547) (by decide +kernel)⟩
theorem lw_p14 : lw_okq (⟨"SiteswapStudio$Counter", "throwNext", "(II)V"⟩, 1) := ⟨⟨by decide +kernel, by decide +kernel⟩, List.mem_of_getElem? (i := 93) (by decide +kernel), List.mem_of_getElem? (i := 591) (by decide +kernel), List.mem_of_getElem? (i := 592) (by decide +kernel)⟩
theorem lw_p15 : lw_okq (⟨"SiteswapStudio$Counter", "addRows", "(III)V"⟩, 1) := ⟨⟨by decide +kernel, by decide +kernel⟩, List.mem_of_getElem? (i := 93) (by decide +kernel), List.mem_of_getElem? (i := 602) (by decide +kernel), List.mem_of_getElem? (i := 603) (by decide +kernel)⟩
def lw_privs_1 : List (MethodName × Nat) := [(⟨"SiteswapStudio$Draft", "firstUneven", "()I"⟩, 6), (⟨"SiteswapStudio$Draft", "landingSite", "(II)I"⟩, 6), (⟨"SiteswapStudio$Draft", "firstMeeting", "()I"⟩, 6), (⟨"java/lang/Throwable", "fillInStackTrace", "(I)Ljava/lang/Throwable;"⟩, 6), (⟨"SiteswapStudio", "requireSite", "(I)V"⟩, 6), (⟨"SiteswapStudio", "requireValid", "()V"⟩, 6), (⟨"SiteswapStudio", "requirePlain", "()V"⟩, 6), (⟨"SiteswapStudio$Draft", "isRotationLess", "(II)Z"⟩, 6), (⟨"SiteswapStudio$Joint", "measureDistances", "(LSiteswapStudio$Draft;)V"⟩, 8), (⟨"SiteswapStudio$Joint", "reach", "(II)V"⟩, 8), (⟨"SiteswapStudio$Joint", "nearestSite", "(LSiteswapStudio$Draft;)I"⟩, 8), (⟨"SiteswapStudio$Joint", "distanceOf", "(LSiteswapStudio$Draft;I)I"⟩, 8), (⟨"SiteswapStudio$Joint", "walk", "(I)I"⟩, 8), (⟨"SiteswapStudio$Joint", "leastThrow", "(II)I"⟩, 8), (⟨"SiteswapStudio$Counter", "throwNext", "(II)V"⟩, 1), (⟨"SiteswapStudio$Counter", "addRows", "(III)V"⟩, 1)]
theorem lw_r1 : ∀ q ∈ lw_privs_1, lw_okq q := List.forall_mem_cons.mpr ⟨lw_p0, List.forall_mem_cons.mpr ⟨lw_p1, List.forall_mem_cons.mpr ⟨lw_p2, List.forall_mem_cons.mpr ⟨lw_p3, List.forall_mem_cons.mpr ⟨lw_p4, List.forall_mem_cons.mpr ⟨lw_p5, List.forall_mem_cons.mpr ⟨lw_p6, List.forall_mem_cons.mpr ⟨lw_p7, List.forall_mem_cons.mpr ⟨lw_p8, List.forall_mem_cons.mpr ⟨lw_p9, List.forall_mem_cons.mpr ⟨lw_p10, List.forall_mem_cons.mpr ⟨lw_p11, List.forall_mem_cons.mpr ⟨lw_p12, List.forall_mem_cons.mpr ⟨lw_p13, List.forall_mem_cons.mpr ⟨lw_p14, List.forall_mem_cons.mpr ⟨lw_p15, fun _ h => absurd h List.not_mem_nil⟩⟩⟩⟩⟩⟩⟩⟩⟩⟩⟩⟩⟩⟩⟩⟩
theorem lw_p16 : lw_okq (⟨"SiteswapStudio$CycleSearch", "search", "(III)I"⟩, 2) := ⟨⟨by decide +kernel, by decide +kernel⟩, List.mem_of_getElem? (i := 103) (by decide +kernel), List.mem_of_getElem? (i := 619) (by decide +kernel), List.mem_of_getElem? (i := 620) (by decide +kernel)⟩
theorem lw_p17 : lw_okq (⟨"SiteswapStudio$Stage", "numberBalls", "()V"⟩, 7) := ⟨⟨by decide +kernel, by decide +kernel⟩, List.mem_of_getElem? (i := 118) (by decide +kernel), List.mem_of_getElem? (i := 646) (by decide +kernel), List.mem_of_getElem? (i := 647) (by decide +kernel)⟩
theorem lw_p18 : lw_okq (⟨"SiteswapStudio$Stage", "numberBallsLanding", "(II)V"⟩, 7) := ⟨⟨by decide +kernel, by decide +kernel⟩, List.mem_of_getElem? (i := 118) (by decide +kernel), List.mem_of_getElem? (i := 650) (by decide +kernel), List.mem_of_getElem? (i := 651) (by decide +kernel)⟩
theorem lw_p19 : lw_okq (⟨"SiteswapStudio$Stage", "numberBallsOf", "(IIII)V"⟩, 7) := ⟨⟨by decide +kernel, by decide +kernel⟩, List.mem_of_getElem? (i := 118) (by decide +kernel), List.mem_of_getElem? (i := 660) (by decide +kernel), List.mem_of_getElem? (i := 661) (by decide +kernel)⟩
theorem lw_p20 : lw_okq (⟨"SiteswapStudio", "requireShown", "()V"⟩, 6) := ⟨⟨by decide +kernel, by decide +kernel⟩, List.mem_of_getElem? (i := 19) (by decide +kernel), List.mem_of_getElem? (i := 674) (by decide +kernel), List.mem_of_getElem? (i := 675) (by decide +kernel)⟩
theorem lw_p21 : lw_okq (⟨"SiteswapStudio$Stage", "throwFrom", "(I)I"⟩, 7) := ⟨⟨by decide +kernel, by decide +kernel⟩, List.mem_of_getElem? (i := 118) (by decide +kernel), List.mem_of_getElem? (i := 683) (by decide +kernel), List.mem_of_getElem? (i := 684) (by decide +kernel)⟩
theorem lw_p22 : lw_okq (⟨"SiteswapStudio$Stage", "nextThrow", "(II)I"⟩, 7) := ⟨⟨by decide +kernel, by decide +kernel⟩, List.mem_of_getElem? (i := 118) (by decide +kernel), List.mem_of_getElem? (i := 687) (by decide +kernel), List.mem_of_getElem? (i := 688) (by decide +kernel)⟩
theorem lw_p23 : lw_okq (⟨"SiteswapStudio", "requireBall", "(I)V"⟩, 6) := ⟨⟨by decide +kernel, by decide +kernel⟩, List.mem_of_getElem? (i := 19) (by decide +kernel), List.mem_of_getElem? (i := 698) (by decide +kernel), List.mem_of_getElem? (i := 699) (by decide +kernel)⟩
theorem lw_p24 : lw_okq (⟨"SiteswapStudioModel", "fresh", "(III)V"⟩, 21) := ⟨⟨by decide +kernel, by decide +kernel⟩, List.mem_of_getElem? (i := 730) (by decide +kernel), List.mem_of_getElem? (i := 736) (by decide +kernel), List.mem_of_getElem? (i := 737) (by decide +kernel)⟩
theorem lw_p25 : lw_okq (⟨"SiteswapStudioModel", "fail", "(I)I"⟩, 21) := ⟨⟨by decide +kernel, by decide +kernel⟩, List.mem_of_getElem? (i := 730) (by decide +kernel), List.mem_of_getElem? (i := 816) (by decide +kernel), List.mem_of_getElem? (i := 817) (by decide +kernel)⟩
theorem lw_p26 : lw_okq (⟨"SiteswapStudioModel", "noSite", "(I)Z"⟩, 21) := ⟨⟨by decide +kernel, by decide +kernel⟩, List.mem_of_getElem? (i := 730) (by decide +kernel), List.mem_of_getElem? (i := 824) (by decide +kernel), List.mem_of_getElem? (i := 825) (by decide +kernel)⟩
theorem lw_p27 : lw_okq (⟨"SiteswapStudioModel", "tall", "(III)I"⟩, 21) := ⟨⟨by decide +kernel, by decide +kernel⟩, List.mem_of_getElem? (i := 730) (by decide +kernel), List.mem_of_getElem? (i := 828) (by decide +kernel), List.mem_of_getElem? (i := 829) (by decide +kernel)⟩
theorem lw_p28 : lw_okq (⟨"SiteswapStudioModel", "isValid", "(I)Z"⟩, 21) := ⟨⟨by decide +kernel, by decide +kernel⟩, List.mem_of_getElem? (i := 730) (by decide +kernel), List.mem_of_getElem? (i := 840) (by decide +kernel), List.mem_of_getElem? (i := 841) (by decide +kernel)⟩
theorem lw_p29 : lw_okq (⟨"SiteswapStudioModel", "landing", "(II)I"⟩, 21) := ⟨⟨by decide +kernel, by decide +kernel⟩, List.mem_of_getElem? (i := 730) (by decide +kernel), List.mem_of_getElem? (i := 844) (by decide +kernel), List.mem_of_getElem? (i := 845) (by decide +kernel)⟩
theorem lw_p30 : lw_okq (⟨"SiteswapStudioModel", "target", "(III)I"⟩, 21) := ⟨⟨by decide +kernel, by decide +kernel⟩, List.mem_of_getElem? (i := 730) (by decide +kernel), List.mem_of_getElem? (i := 848) (by decide +kernel), List.mem_of_getElem? (i := 849) (by decide +kernel)⟩
theorem lw_p31 : lw_okq (⟨"SiteswapStudioModel", "throwsAt", "(II)I"⟩, 21) := ⟨⟨by decide +kernel, by decide +kernel⟩, List.mem_of_getElem? (i := 730) (by decide +kernel), List.mem_of_getElem? (i := 852) (by decide +kernel), List.mem_of_getElem? (i := 853) (by decide +kernel)⟩
def lw_privs_2 : List (MethodName × Nat) := [(⟨"SiteswapStudio$CycleSearch", "search", "(III)I"⟩, 2), (⟨"SiteswapStudio$Stage", "numberBalls", "()V"⟩, 7), (⟨"SiteswapStudio$Stage", "numberBallsLanding", "(II)V"⟩, 7), (⟨"SiteswapStudio$Stage", "numberBallsOf", "(IIII)V"⟩, 7), (⟨"SiteswapStudio", "requireShown", "()V"⟩, 6), (⟨"SiteswapStudio$Stage", "throwFrom", "(I)I"⟩, 7), (⟨"SiteswapStudio$Stage", "nextThrow", "(II)I"⟩, 7), (⟨"SiteswapStudio", "requireBall", "(I)V"⟩, 6), (⟨"SiteswapStudioModel", "fresh", "(III)V"⟩, 21), (⟨"SiteswapStudioModel", "fail", "(I)I"⟩, 21), (⟨"SiteswapStudioModel", "noSite", "(I)Z"⟩, 21), (⟨"SiteswapStudioModel", "tall", "(III)I"⟩, 21), (⟨"SiteswapStudioModel", "isValid", "(I)Z"⟩, 21), (⟨"SiteswapStudioModel", "landing", "(II)I"⟩, 21), (⟨"SiteswapStudioModel", "target", "(III)I"⟩, 21), (⟨"SiteswapStudioModel", "throwsAt", "(II)I"⟩, 21)]
theorem lw_r2 : ∀ q ∈ lw_privs_2, lw_okq q := List.forall_mem_cons.mpr ⟨lw_p16, List.forall_mem_cons.mpr ⟨lw_p17, List.forall_mem_cons.mpr ⟨lw_p18, List.forall_mem_cons.mpr ⟨lw_p19, List.forall_mem_cons.mpr ⟨lw_p20, List.forall_mem_cons.mpr ⟨lw_p21, List.forall_mem_cons.mpr ⟨lw_p22, List.forall_mem_cons.mpr ⟨lw_p23, List.forall_mem_cons.mpr ⟨lw_p24, List.forall_mem_cons.mpr ⟨lw_p25, List.forall_mem_cons.mpr ⟨lw_p26, List.forall_mem_cons.mpr ⟨lw_p27, List.forall_mem_cons.mpr ⟨lw_p28, List.forall_mem_cons.mpr ⟨lw_p29, List.forall_mem_cons.mpr ⟨lw_p30, List.forall_mem_cons.mpr ⟨lw_p31, fun _ h => absurd h List.not_mem_nil⟩⟩⟩⟩⟩⟩⟩⟩⟩⟩⟩⟩⟩⟩⟩⟩
theorem lw_p32 : lw_okq (⟨"SiteswapStudioModel", "ballsOf", "(I)I"⟩, 21) := ⟨⟨by decide +kernel, by decide +kernel⟩, List.mem_of_getElem? (i := 730) (by decide +kernel), List.mem_of_getElem? (i := 864) (by decide +kernel), List.mem_of_getElem? (i := 865) (by decide +kernel)⟩
theorem lw_p33 : lw_okq (⟨"SiteswapStudioModel", "stateOf", "(II)I"⟩, 21) := ⟨⟨by decide +kernel, by decide +kernel⟩, List.mem_of_getElem? (i := 730) (by decide +kernel), List.mem_of_getElem? (i := 872) (by decide +kernel), List.mem_of_getElem? (i := 873) (by decide +kernel)⟩
theorem lw_p34 : lw_okq (⟨"SiteswapStudioModel", "lower", "(II)Z"⟩, 21) := ⟨⟨by decide +kernel, by decide +kernel⟩, List.mem_of_getElem? (i := 730) (by decide +kernel), List.mem_of_getElem? (i := 884) (by decide +kernel), List.mem_of_getElem? (i := 885) (by decide +kernel)⟩
theorem lw_p35 : lw_okq (⟨"SiteswapStudioModel", "copy", "(II)V"⟩, 21) := ⟨⟨by decide +kernel, by decide +kernel⟩, List.mem_of_getElem? (i := 730) (by decide +kernel), List.mem_of_getElem? (i := 896) (by decide +kernel), List.mem_of_getElem? (i := 897) (by decide +kernel)⟩
theorem lw_p36 : lw_okq (⟨"SiteswapStudioModel", "measure", "(I)V"⟩, 21) := ⟨⟨by decide +kernel, by decide +kernel⟩, List.mem_of_getElem? (i := 730) (by decide +kernel), List.mem_of_getElem? (i := 908) (by decide +kernel), List.mem_of_getElem? (i := 909) (by decide +kernel)⟩
theorem lw_p37 : lw_okq (⟨"SiteswapStudioModel", "rowIsCycle", "(I)Z"⟩, 21) := ⟨⟨by decide +kernel, by decide +kernel⟩, List.mem_of_getElem? (i := 730) (by decide +kernel), List.mem_of_getElem? (i := 931) (by decide +kernel), List.mem_of_getElem? (i := 932) (by decide +kernel)⟩
theorem lw_p38 : lw_okq (⟨"SiteswapStudioModel", "rowState", "(II)I"⟩, 21) := ⟨⟨by decide +kernel, by decide +kernel⟩, List.mem_of_getElem? (i := 730) (by decide +kernel), List.mem_of_getElem? (i := 935) (by decide +kernel), List.mem_of_getElem? (i := 936) (by decide +kernel)⟩
theorem lw_p39 : lw_okq (⟨"SiteswapStudioModel", "enter", "(II)V"⟩, 21) := ⟨⟨by decide +kernel, by decide +kernel⟩, List.mem_of_getElem? (i := 730) (by decide +kernel), List.mem_of_getElem? (i := 943) (by decide +kernel), List.mem_of_getElem? (i := 944) (by decide +kernel)⟩
theorem lw_p40 : lw_okq (⟨"SiteswapStudioModel", "comes", "(II)V"⟩, 21) := ⟨⟨by decide +kernel, by decide +kernel⟩, List.mem_of_getElem? (i := 730) (by decide +kernel), List.mem_of_getElem? (i := 947) (by decide +kernel), List.mem_of_getElem? (i := 948) (by decide +kernel)⟩
theorem lw_p41 : lw_okq (⟨"SiteswapStudioModel", "beat", "()I"⟩, 21) := ⟨⟨by decide +kernel, by decide +kernel⟩, List.mem_of_getElem? (i := 730) (by decide +kernel), List.mem_of_getElem? (i := 955) (by decide +kernel), List.mem_of_getElem? (i := 956) (by decide +kernel)⟩
theorem lw_p42 : lw_okq (⟨"SiteswapStudioModel", "fly", "(III)V"⟩, 21) := ⟨⟨by decide +kernel, by decide +kernel⟩, List.mem_of_getElem? (i := 730) (by decide +kernel), List.mem_of_getElem? (i := 959) (by decide +kernel), List.mem_of_getElem? (i := 960) (by decide +kernel)⟩
theorem lw_p43 : lw_okq (⟨"SiteswapStudioModel", "handOf", "(II)I"⟩, 21) := ⟨⟨by decide +kernel, by decide +kernel⟩, List.mem_of_getElem? (i := 730) (by decide +kernel), List.mem_of_getElem? (i := 963) (by decide +kernel), List.mem_of_getElem? (i := 964) (by decide +kernel)⟩
def lw_privs_3 : List (MethodName × Nat) := [(⟨"SiteswapStudioModel", "ballsOf", "(I)I"⟩, 21), (⟨"SiteswapStudioModel", "stateOf", "(II)I"⟩, 21), (⟨"SiteswapStudioModel", "lower", "(II)Z"⟩, 21), (⟨"SiteswapStudioModel", "copy", "(II)V"⟩, 21), (⟨"SiteswapStudioModel", "measure", "(I)V"⟩, 21), (⟨"SiteswapStudioModel", "rowIsCycle", "(I)Z"⟩, 21), (⟨"SiteswapStudioModel", "rowState", "(II)I"⟩, 21), (⟨"SiteswapStudioModel", "enter", "(II)V"⟩, 21), (⟨"SiteswapStudioModel", "comes", "(II)V"⟩, 21), (⟨"SiteswapStudioModel", "beat", "()I"⟩, 21), (⟨"SiteswapStudioModel", "fly", "(III)V"⟩, 21), (⟨"SiteswapStudioModel", "handOf", "(II)I"⟩, 21)]
theorem lw_r3 : ∀ q ∈ lw_privs_3, lw_okq q := List.forall_mem_cons.mpr ⟨lw_p32, List.forall_mem_cons.mpr ⟨lw_p33, List.forall_mem_cons.mpr ⟨lw_p34, List.forall_mem_cons.mpr ⟨lw_p35, List.forall_mem_cons.mpr ⟨lw_p36, List.forall_mem_cons.mpr ⟨lw_p37, List.forall_mem_cons.mpr ⟨lw_p38, List.forall_mem_cons.mpr ⟨lw_p39, List.forall_mem_cons.mpr ⟨lw_p40, List.forall_mem_cons.mpr ⟨lw_p41, List.forall_mem_cons.mpr ⟨lw_p42, List.forall_mem_cons.mpr ⟨lw_p43, fun _ h => absurd h List.not_mem_nil⟩⟩⟩⟩⟩⟩⟩⟩⟩⟩⟩⟩
def lw_privs : List (MethodName × Nat) := lw_privs_1 ++ (lw_privs_2 ++ (lw_privs_3))
def lw_tbl : List Cond := k2_sels lw_privs ++ tables_1
theorem lw_privs_ok : ∀ q ∈ lw_privs, lw_okq q := by
  show ∀ q ∈ lw_privs_1 ++ (lw_privs_2 ++ (lw_privs_3)), lw_okq q
  exact List.forall_mem_append.mpr ⟨lw_r1, List.forall_mem_append.mpr ⟨lw_r2, lw_r3⟩⟩
end
section
/-! ===== BEGIN words of one list among another's, by their places ===== -/
theorem goodIn_r {big : List Cond} (ws : List Cond) (ps : List Nat) (hp : ws = ps.filterMap (fun i => big[i]?)) (h : ws.all goodWord = true) : GoodIn big ws := by
  intro w hw
  have h1 := List.all_eq_true.mp h w hw
  rw [hp] at hw
  obtain ⟨i, -, hi⟩ := List.mem_filterMap.mp hw
  have hm : w ∈ big := by first | exact List.mem_of_getElem? hi | exact List.getElem?_mem hi
  exact ⟨hm, good_of_word h1⟩
theorem goodIn_app {big a b : List Cond} (ha : GoodIn big a) (hb : GoodIn big b) : GoodIn big (a ++ b) := fun w h => (List.mem_append.mp h).elim (ha w) (hb w)
theorem goodIn_ca {big a b : List Cond} {c : Cond} (ha : GoodIn big (c :: a)) (hb : GoodIn big b) : GoodIn big (c :: (a ++ b)) := fun w h => (List.mem_cons.mp h).elim (fun e => ha w (List.mem_cons.mpr (Or.inl e))) (fun h => (List.mem_append.mp h).elim (fun h => ha w (List.mem_cons.mpr (Or.inr h))) (hb w))
theorem goodIn_sub {big ws : List Cond} (hm : ∀ w ∈ ws, w ∈ big) (h : ws.all goodWord = true) : GoodIn big ws := fun w hw => ⟨hm w hw, good_of_word (List.all_eq_true.mp h w hw)⟩
/-! ===== END ===== -/

/-! ===== BEGIN exceptions that leave a method, and their catching by the caller (launches without stack traces) ===== -/
section VXA
/-! The laws vx_back, vx_callV, vx_callS, vx_callSW, vx_throw0, vx_throwS follow proofs of the library, with one case more: JvmDerived/Free/Laws.lean (Back.of_free), Shelf42/LK1.lean (callV, callS), Shelf/KitTraced.lean (throwNew0V, throwNewS). -/
/-- where a method has thrown q: the class by its name, the cell, what was written, the world -/
def vx_T (XC : String → State → State → Prop) (st : State) (q : Addr) (t : State) (mc ms : Nat) (free : Addr → Prop) : Prop :=
  ∃ (E : String) (ce : Cell) (L : List Loc), XC E st t ∧ t.heap[q]? = some ce ∧ ce.vm = .none ∧ st.vm.findClass E = some ce.cls ∧ st.WarmedH t.vm ∧ st.sameButNew ({ t with vm := st.vm } : State) L mc ms ∧ ∀ z ∈ L, free z.base
def vx_Q (Qc : Array Value → State → Outcome → State → Prop) (XC : String → State → State → Prop) (mc ms : Nat) (free : Addr → Prop) : Array Value → State → Outcome → State → Prop := fun a st o t =>
  (Qc a st o t ∧ ∃ L, FrameEnd st o t L mc ms ∧ ∀ q ∈ L, free q.base) ∨ ∃ q, o = .threw q ∧ vx_T XC st q t mc ms free
/-- a callee that returns or throws -/
def vx_Met (l : Launch) (y : MethodName) (ws : List Cond) (rm : Room) (Pc : Array Value → State → Prop) (Qc : Array Value → State → Outcome → State → Prop) (XC : String → State → State → Prop) (mc ms : Nat) (free : Addr → Prop) : Prop :=
  MetFree l y (headSpec ws rm) Pc (fun _ _ _ _ _ => True) (vx_Q Qc XC mc ms free)
def vx_Post (XC : String → State → State → Prop) (mc ms : Nat) (free : Addr → Prop) : Pt → Array Value → Addr → Pt → Prop := fun A a q B =>
  ∃ (g : JFrame) (mk : MethodId) (t : State) (L : List Loc) (E : String) (ce : Cell), B.U.heap = t.heap ∧ B.U.vm = t.vm ∧ XC E (A.U.calling g mk a) t ∧ t.heap[q]? = some ce ∧ ce.vm = .none ∧ A.U.vm.findClass E = some ce.cls ∧ B.locs = A.locs ++ L ∧ (∀ z ∈ L, free z.base) ∧ B.cells = A.cells + mc ∧ B.slots = A.slots + ms
def vx_Back (l : Launch) (R : Room) (p : Program) (e : Env) (below : List Frame) (s : State) (sargs : Array Value) (y : MethodName) (len W9 : Nat)
    (Pre : Pt → Array Value → Prop) (Post : Pt → Array Value → Option Value → Pt → Prop) (PostX : Pt → Array Value → Addr → Pt → Prop) : Prop :=
  ∀ (m : MethodId) (meth : Method) (c : Code) (A : Pt) (g : JFrame) (ig : Instr) (mk : MethodId) (a : Array Value),
    Stand p l e R s m sargs below meth c A.U A.locs A.cells A.slots → g.method = m → g.locals.size = c.maxLocals → decode c.code g.pc = .ok (ig, len) →
    2 * g.monitorRoom + (g.stack.map fun v => v.category).sum ≤ W9 → A.U.methodNamed? y = some mk → Pre A a →
    (∃ (v : Option Value) (B : Pt), Stand p l e R s m sargs below meth c B.U B.locs B.cells B.slots ∧ Post A a v B ∧
      Steps p.tables e below (doInvoke e (A.U.setTop g) [] mk a).1 (B.U.setTop { g with pc := g.pc + len, stack := v.toList ++ g.stack })) ∨
    (∃ (q : Addr) (B : Pt), Stand p l e R s m sargs below meth c B.U B.locs B.cells B.slots ∧ PostX A a q B ∧
      Steps p.tables e below (doInvoke e (A.U.setTop g) [] mk a).1 ((B.U.setTop g).pushFrame (.throwing q)))
section Payer
variable {l : Launch} {R : Room} {p : Program} {e : Env} {below : List Frame} {s : State} {sargs : Array Value} {y : MethodName} {len W9 : Nat}
theorem vx_back {ws : List Cond} {rm : Room} {Pc : Array Value → State → Prop} {Qc : Array Value → State → Outcome → State → Prop} {XC : String → State → State → Prop} {mc ms : Nat} {free : Addr → Prop} {bytes : ByteArray} {maxL : Nat} {ret : Option FieldType}
    (hM : vx_Met l y ws rm Pc Qc XC mc ms free) (hblind : FrameBlind Pc) (hrc : rm.cells = mc) (hrs : rm.slots = ms)
    (hframes : rm.frames + 1 ≤ R.frames) (hlocals : W9 + (maxL + 11) + rm.locals ≤ R.locals)
    (hws : ∀ w ∈ ws, ∀ a' U, s.WarmedH U.vm → w.before a' U = true) (hcode : Cond.code y bytes maxL ret ∈ ws) (hinit : ∀ a' U, s.WarmedH U.vm → (Cond.initialized y.cls).before a' U = true) :
    vx_Back l R p e below s sargs y len W9 (PreOf R mc ms Pc) (PostOf Qc mc ms free) (vx_Post XC mc ms free) := by
  intro m meth c A g ig mk a X hg hsize hdg hW hn hp
  have h1 : (headSpec ws rm).pre.before a A.U = true := atoms_intro fun w hw => hws w hw _ _ X.warmed
  have h2 : (Cond.code y bytes maxL ret).before a A.U = true := hws _ hcode _ _ X.warmed
  have h3 : (Cond.initialized y.cls).before a A.U = true := hinit _ _ X.warmed
  have h4 : A.cells + (headSpec ws rm).room.cells ≤ R.cells := by rw [show (headSpec ws rm).room.cells = mc from hrc]; exact hp.1
  have h5 : A.slots + (headSpec ws rm).room.slots ≤ R.slots := by rw [show (headSpec ws rm).room.slots = ms from hrs]; exact hp.2.1
  have hPc : Pc a (A.U.calling g mk a) := hblind _ _ _ _ hp.2.2
  obtain ⟨U, Ls, c0, s0⟩ := A
  dsimp only [Pt.U, Pt.locs, Pt.cells, Pt.slots] at h1 h2 h3 h4 h5 X hn hPc ⊢
  obtain ⟨methY, cY, hmY, hcY, -, hlY, -, -, -, -⟩ := Cond.code_spec hn h2
  obtain ⟨kY, hkY, -⟩ := className_of_methodNamed hn
  have hinitY : kY.init = .initialized := Cond.initialized_spec (findClass_of_methodNamed hn) hkY h3
  have h : At U g.method c below := by rw [hg]; exact X.here
  have hlocals9 : W9 + (maxL + 11) + (headSpec ws rm).room.locals ≤ R.locals := hlocals
  have happ : (headSpec ws rm).appliesLoose y e.platform (U.calling g mk a) = true :=
    Spec.appliesLoose_calling (g := g) h hdg hn hkY hinitY
      (X.room_calling (g := g) (R' := (headSpec ws rm).room) hsize hmY hcY hframes (by rw [hlY]; omega) h4 h5) h1
  obtain ⟨mid, hmid⟩ := h.above
  have hfr : (U.setTop g).frames = (.java g :: mid) ++ below := by rw [State.frames_setTop' g h.top, hmid]; rfl
  obtain ⟨o, s₂, hsteps, -, hend, hq⟩ := Steps.callFree hM p X.admits X.cas X.clock (acts := []) hfr happ hPc trivial
  have hq' : vx_Q Qc XC mc ms free a (U.calling g mk a) o s₂ := hq
  rw [State.frames_setTop' g h.top] at hend
  obtain ⟨g₀, hg0⟩ := Option.isSome_iff_exists.mp h.top
  obtain ⟨r, hr⟩ := State.topJava?_eq_some.mp hg0
  have hr' : (({ U with heap := s₂.heap, slotsUsed := s₂.slotsUsed } : State).setVm s₂.vm).frames = .java g₀ :: r := hr
  rcases hq' with ⟨hqc, L, hfe, hL⟩ | ⟨q, rfl, E, ce, L, hx, hce, hcv, hcl, hW₂, hsm, hL⟩
  · obtain ⟨⟨v, rfl⟩, hW₂, e2, q2, q3, q4, q5, q6⟩ := id hfe
    have e3 : s₂ = ({ (U.calling g mk a).setFrames s₂.frames with heap := s₂.heap, slotsUsed := s₂.slotsUsed } : State).setVm s₂.vm := by
      have : s₂ = ({ s₂ with vm := (U.calling g mk a).vm } : State).setVm s₂.vm := rfl
      rw [e2] at this
      exact this
    obtain ⟨c₂, i₂, len₂, hc₂, hd₂, hf₂⟩ := hend
    have hW' : U.WarmedH s₂.vm := hW₂
    have hcc : c₂ = c := by
      have h1 : s₂.code? g.method = U.code? g.method := by
        rw [State.code?_eq, State.code?_eq, hW'.alike.method?]
      exact Option.some.inj (hc₂.symm.trans (h1.trans h.code))
    subst hcc
    have hlen : len₂ = len := by rw [hdg] at hd₂; cases hd₂; rfl
    subst hlen
    have hs₂ : s₂ = (({ U with heap := s₂.heap, slotsUsed := s₂.slotsUsed } : State).setVm s₂.vm).setTop { g with pc := g.pc + len₂, stack := v.toList ++ g.stack } := by
      refine e3.trans ?_
      rw [hf₂, State.calling_eq h.top, State.setFrames_setFrames, State.setTop_of_frames _ hr', hr]
      rfl
    have hsame : U.sameButNew ({ U with heap := s₂.heap, slotsUsed := s₂.slotsUsed } : State) L mc ms := by
      refine ⟨?_, q2, q3, q4, q5, q6⟩
      obtain ⟨t, ht, -⟩ := State.frames_cons hr
      show ({ U with heap := s₂.heap, slotsUsed := s₂.slotsUsed } : State) = { U.setFrames U.frames with heap := s₂.heap, slotsUsed := s₂.slotsUsed }
      rw [State.setFrames_self ht]
    subst hg
    refine Or.inl ⟨v, ⟨(({ U with heap := s₂.heap, slotsUsed := s₂.slotsUsed } : State).setVm s₂.vm), Ls ++ L, c0 + mc, s0 + ms⟩,
      ⟨X.admits, X.cas, X.clock, X.frames, X.room, X.hears, X.method, X.code, (X.here.setHeapUsed s₂.heap s₂.slotsUsed).setVm hW'.alike, X.tail, State.WarmedH.trans X.warmed hW', X.limits, X.bytes, X.same.trans (hsame.setVm s.vm)⟩,
      ⟨g, mk, s₂, L, rfl, rfl, hqc, rfl, hL, rfl, rfl⟩, ?_⟩
    show Steps p.tables e below _ ((({ U with heap := s₂.heap, slotsUsed := s₂.slotsUsed } : State).setVm s₂.vm).setTop { g with pc := g.pc + len₂, stack := v.toList ++ g.stack })
    rw [← hs₂]
    exact hsteps
  · obtain ⟨e2, q2, q3, q4, q5, q6⟩ := id hsm
    have e3 : s₂ = ({ (U.calling g mk a).setFrames s₂.frames with heap := s₂.heap, slotsUsed := s₂.slotsUsed } : State).setVm s₂.vm := by
      have : s₂ = ({ s₂ with vm := (U.calling g mk a).vm } : State).setVm s₂.vm := rfl
      rw [e2] at this
      exact this
    have hf₂ : s₂.frames = .throwing q :: .java g :: U.frames.tail := hend
    have hW' : U.WarmedH s₂.vm := hW₂
    have hs₂ : s₂ = ((({ U with heap := s₂.heap, slotsUsed := s₂.slotsUsed } : State).setVm s₂.vm).setTop g).pushFrame (.throwing q) := by
      refine e3.trans ?_
      rw [hf₂, State.calling_eq h.top, State.setFrames_setFrames, State.pushFrame, State.frames_setTop _ hr', State.setTop_of_frames _ hr', State.setFrames_setFrames, hr]
      rfl
    have hsame : U.sameButNew ({ U with heap := s₂.heap, slotsUsed := s₂.slotsUsed } : State) L mc ms := by
      refine ⟨?_, q2, q3, q4, q5, q6⟩
      obtain ⟨t, ht, -⟩ := State.frames_cons hr
      show ({ U with heap := s₂.heap, slotsUsed := s₂.slotsUsed } : State) = { U.setFrames U.frames with heap := s₂.heap, slotsUsed := s₂.slotsUsed }
      rw [State.setFrames_self ht]
    subst hg
    refine Or.inr ⟨q, ⟨(({ U with heap := s₂.heap, slotsUsed := s₂.slotsUsed } : State).setVm s₂.vm), Ls ++ L, c0 + mc, s0 + ms⟩,
      ⟨X.admits, X.cas, X.clock, X.frames, X.room, X.hears, X.method, X.code, (X.here.setHeapUsed s₂.heap s₂.slotsUsed).setVm hW'.alike, X.tail, State.WarmedH.trans X.warmed hW', X.limits, X.bytes, X.same.trans (hsame.setVm s.vm)⟩,
      ⟨g, mk, s₂, L, E, ce, rfl, rfl, hx, hce, hcv, hcl, rfl, hL, rfl, rfl⟩, ?_⟩
    show Steps p.tables e below _ (((({ U with heap := s₂.heap, slotsUsed := s₂.slotsUsed } : State).setVm s₂.vm).setTop g).pushFrame (.throwing q))
    rw [← hs₂]
    exact hsteps
end Payer
section Calls
variable {p : Program} {l : Launch} {e : Env} {R : Room} {s : State} {m : MethodId} {args : Array Value} {below : List Frame} {meth : Method} {c : Code} {T : State} {locs : List Loc} {cells slots : Nat}
theorem vx_callV (X : Stand p l e R s m args below meth c T locs cells slots) (hexec : p.tables.exec = Jvm.exec) {own C : String} {index : Nat} {y : MethodName} {bytes : ByteArray} {maxL : Nat} {ret : Option FieldType}
    (hown : s.vm.findClass own = some m.cls) (hlink : (Cond.methodLink own index y).before args s = true) (hinst : (Cond.instanceMethod y).before args s = true) (hsel : (Cond.selects C y y).before args s = true)
    (hcode : (Cond.code y bytes maxL ret).before args s = true) (hy : y.cls ≠ "java/lang/invoke/MethodHandle" ∧ y.cls ≠ "java/lang/invoke/VarHandle")
    {W9 : Nat} {Pre : Pt → Array Value → Prop} {Post : Pt → Array Value → Option Value → Pt → Prop} {PostX : Pt → Array Value → Addr → Pt → Prop} (hK : vx_Back l R p e below s args y 3 W9 Pre Post PostX)
    {b : Addr} {cellB : Cell} (hcell : T.heap[b]? = some cellB) (hobj : cellB.vm.isStatics = false) (hcls : s.vm.findClass C = some cellB.cls)
    {g : JFrame} (hg : g.method = m) (hsize : g.locals.size = c.maxLocals) {argsL rest : List Value} (hlen : ∀ sig, parseMethodDescriptor y.desc = some sig → argsL.length = sig.parameters.length)
    (hstack : g.stack = argsL.reverse ++ .ref b :: rest) (hW : 2 * g.monitorRoom + (rest.map fun v => v.category).sum ≤ W9) (hdg : decode c.code g.pc = .ok (.invokevirtual index, 3))
    (hpre : ∀ vm₁, s.WarmedH vm₁ → Pre ⟨T.setVm vm₁, locs, cells, slots⟩ (Value.ref b :: argsL).toArray) :
    (∃ (v : Option Value) (vm₁ : Vm) (B : Pt), s.WarmedH vm₁ ∧ Stand p l e R s m args below meth c B.U B.locs B.cells B.slots ∧ Post ⟨T.setVm vm₁, locs, cells, slots⟩ (Value.ref b :: argsL).toArray v B ∧
      ∀ target, Steps p.tables e below (B.U.setTop { g with pc := g.pc + 3, stack := v.toList ++ rest }) target → Steps p.tables e below (T.setTop g) target) ∨
    (∃ (q : Addr) (vm₁ : Vm) (B : Pt), s.WarmedH vm₁ ∧ Stand p l e R s m args below meth c B.U B.locs B.cells B.slots ∧ PostX ⟨T.setVm vm₁, locs, cells, slots⟩ (Value.ref b :: argsL).toArray q B ∧
      Steps p.tables e below (T.setTop g) ((B.U.setTop { g with stack := rest }).pushFrame (.throwing q))) := by
  obtain ⟨mk, methM, hnamed, hmethM, hstM, habM⟩ := Cond.instanceMethod_spec hinst
  obtain ⟨methM', cM, hmethM', -, -, -, -, -, -, hsigM⟩ := Cond.code_spec hnamed hcode
  cases hmethM.symm.trans hmethM'
  obtain ⟨c2, r2, m2, q1, q2, q3, q4, kP, hkP, hkPi⟩ := Cond.selects_spec hsel
  cases hcls.symm.trans q1
  cases (State.methodFound?_of_named hnamed hy).symm.trans q2
  cases hnamed.symm.trans q3
  have hselP : selectMethod e.platform s.vm cellB.cls mk = .method mk := by rw [Launch.admits_selectMethod X.admits]; exact q4
  obtain ⟨vm₁, X₁, hstep₁⟩ := X.invokevirtual hexec hown hlink hnamed hmethM hstM hkP hkPi hy (a := b) (cell := cellB) hcell
    (fun z h => by rw [h] at hobj; cases hobj) hselP hmethM habM hkP hkPi (g := g) hg (argsL := argsL) (rest := rest) (hlen _ hsigM) hstack hdg
  rcases hK m meth c ⟨T.setVm vm₁, locs, cells, slots⟩ { g with stack := rest } (.invokevirtual index) mk (Value.ref b :: argsL).toArray X₁ hg hsize hdg hW (X₁.named hnamed) (hpre vm₁ X₁.warmed) with ⟨v, B, X', hpost, hsteps⟩ | ⟨q, B, X', hpost, hsteps⟩
  · exact Or.inl ⟨v, vm₁, B, X₁.warmed, X', hpost, fun target h => hstep₁ _ fun acts => by rw [doInvoke_state]; exact hsteps.trans h⟩
  · exact Or.inr ⟨q, vm₁, B, X₁.warmed, X', hpost, hstep₁ _ fun acts => by rw [doInvoke_state]; exact hsteps⟩
theorem vx_callS (X : Stand p l e R s m args below meth c T locs cells slots) (hexec : p.tables.exec = Jvm.exec) {own : String} {index : Nat} {y : MethodName} {bytes : ByteArray} {maxL : Nat} {ret : Option FieldType}
    (hown : s.vm.findClass own = some m.cls) (hlink : (Cond.methodLink own index y).before args s = true) (hstat : (Cond.static y).before args s = true) (hinit : (Cond.initialized y.cls).before args s = true)
    (hcode : (Cond.code y bytes maxL ret).before args s = true) (hy : y.cls ≠ "java/lang/invoke/MethodHandle" ∧ y.cls ≠ "java/lang/invoke/VarHandle")
    {W9 : Nat} {Pre : Pt → Array Value → Prop} {Post : Pt → Array Value → Option Value → Pt → Prop} {PostX : Pt → Array Value → Addr → Pt → Prop} (hK : vx_Back l R p e below s args y 3 W9 Pre Post PostX)
    {g : JFrame} (hg : g.method = m) (hsize : g.locals.size = c.maxLocals) {argsL rest : List Value} (hlen : ∀ sig, parseMethodDescriptor y.desc = some sig → argsL.length = sig.parameters.length)
    (hstack : g.stack = argsL.reverse ++ rest) (hW : 2 * g.monitorRoom + (rest.map fun v => v.category).sum ≤ W9) (hdg : decode c.code g.pc = .ok (.invokestatic index, 3))
    (hpre : ∀ vm₁, s.WarmedH vm₁ → Pre ⟨T.setVm vm₁, locs, cells, slots⟩ argsL.toArray) :
    (∃ (v : Option Value) (vm₁ : Vm) (B : Pt), s.WarmedH vm₁ ∧ Stand p l e R s m args below meth c B.U B.locs B.cells B.slots ∧ Post ⟨T.setVm vm₁, locs, cells, slots⟩ argsL.toArray v B ∧
      ∀ target, Steps p.tables e below (B.U.setTop { g with pc := g.pc + 3, stack := v.toList ++ rest }) target → Steps p.tables e below (T.setTop g) target) ∨
    (∃ (q : Addr) (vm₁ : Vm) (B : Pt), s.WarmedH vm₁ ∧ Stand p l e R s m args below meth c B.U B.locs B.cells B.slots ∧ PostX ⟨T.setVm vm₁, locs, cells, slots⟩ argsL.toArray q B ∧
      Steps p.tables e below (T.setTop g) ((B.U.setTop { g with stack := rest }).pushFrame (.throwing q))) := by
  obtain ⟨mk, hnamed⟩ := Cond.code_named hcode
  obtain ⟨methM, cM, hmethM, -, -, -, -, -, -, hsigM⟩ := Cond.code_spec hnamed hcode
  have hstatic : methM.isStatic = true := Cond.static_spec hnamed hmethM hstat
  obtain ⟨kP, hkP, -⟩ := className_of_methodNamed hnamed
  have hinitP : kP.init = .initialized := Cond.initialized_spec (findClass_of_methodNamed hnamed) hkP hinit
  obtain ⟨vm₁, X₁, hstep₁⟩ := X.invokestatic hexec hown hlink hnamed hmethM hstatic hkP hinitP hy (g := g) hg (argsL := argsL) (rest := rest) (hlen _ hsigM) hstack hdg
  rcases hK m meth c ⟨T.setVm vm₁, locs, cells, slots⟩ { g with stack := rest } (.invokestatic index) mk argsL.toArray X₁ hg hsize hdg hW (X₁.named hnamed) (hpre vm₁ X₁.warmed) with ⟨v, B, X', hpost, hsteps⟩ | ⟨q, B, X', hpost, hsteps⟩
  · exact Or.inl ⟨v, vm₁, B, X₁.warmed, X', hpost, fun target h => hstep₁ _ fun acts => by rw [doInvoke_state]; exact hsteps.trans h⟩
  · exact Or.inr ⟨q, vm₁, B, X₁.warmed, X', hpost, hstep₁ _ fun acts => by rw [doInvoke_state]; exact hsteps⟩
end Calls
theorem vx_cls {s : State} {T : State} {vm₁ : Vm} {E : String} {k : ClassId} (hW : s.WarmedH vm₁) (h : (T.setVm vm₁).vm.findClass E = some k) : s.vm.findClass E = some k := by
  have h1 : vm₁.findClass E = some k := h
  rw [hW.alike.findClass] at h1
  exact h1
/-- the method's frame g, with q thrown over it -/
def vx_W (p : Program) (l : Launch) (e : Env) (R : Room) (s : State) (m : MethodId) (args : Array Value) (below : List Frame) (meth : Method) (c : Code) (H : Heap) (locs : List Loc) (cells slots : Nat) (Q : State → Prop) (g : JFrame) (q : Addr) : Prop :=
  ∀ T : State, T.heap = H → Stand p l e R s m args below meth c T locs cells slots → ∃ t, Steps p.tables e below ((T.setTop g).pushFrame (.throwing q)) t ∧ Q t
def vx_Run (p : Program) (l : Launch) (e : Env) (R : Room) (s : State) (m : MethodId) (args : Array Value) (below : List Frame) (meth : Method) (c : Code) (H : Heap) (locs : List Loc) (cells slots mc ms : Nat) (g : JFrame) (rest : List Value) (Qa : State → Outcome → State → Prop) (XC : String → State → State → Prop) (free : Addr → Prop) : Prop :=
  ∀ T : State, T.heap = H → Stand p l e R s m args below meth c T locs cells slots →
    (∃ (v : Option Value) (st₀ t T' : State) (L : List Loc), st₀.heap = H ∧ Stand p l e R s m args below meth c T' (locs ++ L) (cells + mc) (slots + ms) ∧ (∀ q ∈ L, free q.base) ∧ T'.heap = t.heap ∧ T'.vm = t.vm ∧ Qa st₀ (.returned v) t ∧
      Goes p e below T g T' { g with pc := g.pc + 3, stack := v.toList ++ rest }) ∨
    (∃ (q : Addr) (st₀ t T' : State) (L : List Loc) (E : String) (ce : Cell), st₀.heap = H ∧ Stand p l e R s m args below meth c T' (locs ++ L) (cells + mc) (slots + ms) ∧ (∀ z ∈ L, free z.base) ∧ T'.heap = t.heap ∧ T'.vm = t.vm ∧ XC E st₀ t ∧ t.heap[q]? = some ce ∧ ce.vm = .none ∧ s.vm.findClass E = some ce.cls ∧
      Steps p.tables e below (T.setTop g) ((T'.setTop { g with stack := rest }).pushFrame (.throwing q)))
def vx_X {S : Type} (px : S → Prop) (B : String → S → State → Prop) (A : Nat → Prop) : String → State → State → Prop := fun E st t => ∃ u : S, px u ∧ B E u t ∧ va_F A st t
section Runs
variable {p : Program} {l : Launch} {e : Env} {R : Room} {s : State} {m : MethodId} {args : Array Value} {below : List Frame} {meth : Method} {c : Code} {H : Heap} {locs : List Loc} {cells slots : Nat}
variable {y : MethodName} {bytes cc : ByteArray} {maxL nL mc ms n index : Nat} {ret : Option FieldType} {ws : List Cond} {rm : Room} {Pc : Array Value → State → Prop} {Qc : Array Value → State → Outcome → State → Prop} {XC : String → State → State → Prop} {free : Addr → Prop} {Ts : List Cond} {own C : String} {b : Addr} {As rest : List Value} {g : JFrame}
theorem vx_callBack (cb : CallB R s args own index y bytes maxL ret ws rm mc ms n) (hM : vx_Met l y ws rm Pc Qc XC mc ms free) (hbl : FrameBlind Pc) : vx_Back l R p e below s args y 3 8 (PreOf R mc ms Pc) (PostOf Qc mc ms free) (vx_Post XC mc ms free) := by
  obtain ⟨hrc, hrs, hfr, hlo, hws, hcw, -, hini, -⟩ := cb
  exact vx_back (bytes := bytes) (maxL := maxL) (ret := ret) hM hbl hrc hrs hfr hlo hws hcw (fun a' U hW => word_at hW (Or.inl (by first | rfl | simp [Cond.onTables, Cond.keeps, Cond.steady])) hini)
theorem vx_runV (S : CallFix p m c cc nL s args Ts own) (hM : vx_Met l y ws rm Pc Qc XC mc ms free) (cw : CallW R s args own C index y bytes maxL ret ws rm mc ms n) (hp : PreV s H C b Pc As)
    (hg : g.method = m) (hn : As.length = n) (hsize : g.locals.size = nL) (hstack : g.stack = As.reverse ++ .ref b :: rest) (hW : 2 * g.monitorRoom + (rest.map fun v => v.category).sum ≤ 8) (hdg : decode cc g.pc = .ok (.invokevirtual index, 3)) (hf : cells + mc ≤ R.cells ∧ slots + ms ≤ R.slots) :
    vx_Run p l e R s m args below meth c H locs cells slots mc ms g rest (Qc (Value.ref b :: As).toArray) XC free := by
  have hK : vx_Back l R p e below s args y 3 8 (PreOf R mc ms Pc) (PostOf Qc mc ms free) (vx_Post XC mc ms free) := vx_callBack cw.1 hM hp.1
  obtain ⟨⟨-, -, -, -, -, -, hcode, -, hy, hlen, hl⟩, hin, hse⟩ := cw
  obtain ⟨hx, hb, hml, ho, -⟩ := S
  obtain ⟨-, ⟨cellB, hcB, hoB, hclB⟩, hPc⟩ := hp
  intro T hT X
  rcases vx_callV X hx (C := C) (bytes := bytes) (maxL := maxL) (ret := ret) ho hl hin hse hcode hy hK (by rw [hT]; exact hcB) hoB hclB hg (hsize.trans hml.symm) (argsL := As) (rest := rest) (fun sig h => hn.trans (hlen sig h)) hstack hW (by rw [hb]; exact hdg)
    (fun vm₁ hW₁ => ⟨hf.1, hf.2, hPc (T.setVm vm₁) hT hW₁⟩) with ⟨v, vm₁, ⟨U', l2, c2, s2⟩, hW₁, X', ⟨g', mk, t, L, e1, e2, hq, h1, hL, h2, h3⟩, st⟩ | ⟨q, vm₁, ⟨U', l2, c2, s2⟩, hW₁, X', ⟨g', mk, t, L, E, ce, e1, e2, hq, hce, hcv, hcl, h1, hL, h2, h3⟩, st⟩
  · dsimp only [Pt.U, Pt.locs, Pt.cells, Pt.slots] at X' e1 e2 h1 h2 h3 st
    subst h1; subst h2; subst h3
    exact Or.inl ⟨v, (T.setVm vm₁).calling g' mk (Value.ref b :: As).toArray, t, U', L, hT, X', hL, e1, e2, hq, st⟩
  · dsimp only [Pt.U, Pt.locs, Pt.cells, Pt.slots] at X' e1 e2 h1 h2 h3 st hcl
    subst h1; subst h2; subst h3
    exact Or.inr ⟨q, (T.setVm vm₁).calling g' mk (Value.ref b :: As).toArray, t, U', L, E, ce, hT, X', hL, e1, e2, hq, hce, hcv, vx_cls hW₁ hcl, st⟩
theorem vx_runS (S : CallFix p m c cc nL s args Ts own) (hM : vx_Met l y ws rm Pc Qc XC mc ms free) (cw : CallB R s args own index y bytes maxL ret ws rm mc ms n ∧ (Cond.static y).before args s = true) (hp : PreS s H Pc As)
    (hg : g.method = m) (hn : As.length = n) (hsize : g.locals.size = nL) (hstack : g.stack = As.reverse ++ rest) (hW : 2 * g.monitorRoom + (rest.map fun v => v.category).sum ≤ 8) (hdg : decode cc g.pc = .ok (.invokestatic index, 3)) (hf : cells + mc ≤ R.cells ∧ slots + ms ≤ R.slots) :
    vx_Run p l e R s m args below meth c H locs cells slots mc ms g rest (Qc As.toArray) XC free := by
  have hK : vx_Back l R p e below s args y 3 8 (PreOf R mc ms Pc) (PostOf Qc mc ms free) (vx_Post XC mc ms free) := vx_callBack cw.1 hM hp.1
  obtain ⟨⟨-, -, -, -, -, -, hcode, hini, hy, hlen, hl⟩, hstt⟩ := cw
  obtain ⟨hx, hb, hml, ho, -⟩ := S
  intro T hT X
  rcases vx_callS X hx (bytes := bytes) (maxL := maxL) (ret := ret) ho hl hstt hini hcode hy hK hg (hsize.trans hml.symm) (argsL := As) (rest := rest) (fun sig h => hn.trans (hlen sig h)) hstack hW (by rw [hb]; exact hdg)
    (fun vm₁ hW₁ => ⟨hf.1, hf.2, hp.2 (T.setVm vm₁) hT hW₁⟩) with ⟨v, vm₁, ⟨U', l2, c2, s2⟩, hW₁, X', ⟨g', mk, t, L, e1, e2, hq, h1, hL, h2, h3⟩, st⟩ | ⟨q, vm₁, ⟨U', l2, c2, s2⟩, hW₁, X', ⟨g', mk, t, L, E, ce, e1, e2, hq, hce, hcv, hcl, h1, hL, h2, h3⟩, st⟩
  · dsimp only [Pt.U, Pt.locs, Pt.cells, Pt.slots] at X' e1 e2 h1 h2 h3 st
    subst h1; subst h2; subst h3
    exact Or.inl ⟨v, (T.setVm vm₁).calling g' mk As.toArray, t, U', L, hT, X', hL, e1, e2, hq, st⟩
  · dsimp only [Pt.U, Pt.locs, Pt.cells, Pt.slots] at X' e1 e2 h1 h2 h3 st hcl
    subst h1; subst h2; subst h3
    exact Or.inr ⟨q, (T.setVm vm₁).calling g' mk As.toArray, t, U', L, E, ce, hT, X', hL, e1, e2, hq, hce, hcv, vx_cls hW₁ hcl, st⟩
end Runs
section Rows
variable {p : Program} {l : Launch} {e : Env} {R : Room} {s : State} {m : MethodId} {args : Array Value} {below : List Frame} {meth : Method} {c : Code} {H : Heap} {locs : List Loc} {cells slots : Nat} {Q : State → Prop}
variable {mc ms : Nat} {free : Addr → Prop} {A0 A1 : Nat → Prop} {H0 : Heap} {a : Array Value} {pc : Nat} {ls : Array Slot} {st0 rest : List Value}
theorem vx_keep {st₀ t T' : State} {L : List Loc} (h0 : st₀.heap = H) (e1 : T'.heap = t.heap) (hS : va_S A0 H0 H locs) (hA : ∀ q, q < H.size → A1 q → A0 q) (hf : ∀ q, free q → A0 q) (hL : ∀ q ∈ L, free q.base) (hF : va_F A1 st₀ t) :
    H.size ≤ T'.heap.size ∧ (∀ q : Nat, q < H.size → ¬ A1 q → T'.heap[q]? = H[q]?) ∧ va_S A0 H0 T'.heap (locs ++ L) := by
  obtain ⟨hz, hk⟩ := hF
  rw [h0] at hz hk
  exact ⟨by rw [e1]; exact hz, fun q h1 h2 => by rw [e1]; exact hk q h1 h2,
    ⟨Nat.le_trans hS.1 (by rw [e1]; exact hz), fun q h1 h2 => by rw [e1, hk q (Nat.lt_of_lt_of_le h1 hS.1) (fun z => h2 (hA q (Nat.lt_of_lt_of_le h1 hS.1) z))]; exact hS.2.1 q h1 h2, fun q hq => by
      rcases List.mem_append.mp hq with h | h
      · exact hS.2.2 q h
      · exact hf _ (hL q h)⟩⟩
theorem vx_calli {S SX : Type} {post : Int32 → S → Prop} {px : SX → Prop} {B : S → State → Prop} {BX : String → SX → State → Prop} {AX : Nat → Prop} (hr : vx_Run p l e R s m args below meth c H locs cells slots mc ms (F0 m pc ls st0) rest (va_Qi post B A1 a) (vx_X px BX AX) free) (hS : va_S A0 H0 H locs) (hA : ∀ q, q < H.size → A1 q → A0 q) (hf : ∀ q, free q → A0 q) (hAX : ∀ q, q < H.size → AX q → A0 q)
    (kx : ∀ (E : String) (ce : Cell) (q9 : Addr) (u : SX) (t : State) (H1 : Heap) (locs1 : List Loc), t.heap = H1 → s.vm.Alike t.vm → px u → BX E u t → H.size ≤ H1.size → (∀ q : Nat, q < H.size → ¬ AX q → H1[q]? = H[q]?) → va_S A0 H0 H1 locs1 → H1[q9]? = some ce → ce.vm = .none → s.vm.findClass E = some ce.cls → vx_W p l e R s m args below meth c H1 locs1 (cells + mc) (slots + ms) Q (F0 m pc ls rest) q9)
    (kk : ∀ (r : Int32) (u : S) (t : State) (H1 : Heap) (locs1 : List Loc), t.heap = H1 → s.vm.Alike t.vm → post r u → B u t → H.size ≤ H1.size → (∀ q : Nat, q < H.size → ¬ A1 q → H1[q]? = H[q]?) → va_S A0 H0 H1 locs1 → W p l e R s m args below meth c H1 locs1 (cells + mc) (slots + ms) Q (F0 m (pc + 3) ls (.int r :: rest))) : W p l e R s m args below meth c H locs cells slots Q (F0 m pc ls st0) := by
  intro T hT X
  rcases hr T hT X with ⟨v, st₀, t, T', L, h0, X', hL, e1, e2, ⟨⟨r, u, hv, hp, hb⟩, hF⟩, st⟩ | ⟨q, st₀, t, T', L, E, ce, h0, X', hL, e1, e2, ⟨u, hp, hb, hF⟩, hce, hcv, hcl, st⟩
  · cases hv
    obtain ⟨k1, k2, k3⟩ := vx_keep h0 e1 hS hA hf hL hF
    obtain ⟨t2, a1, b1⟩ := kk r u t T'.heap (locs ++ L) e1.symm (by rw [← e2]; exact X'.warmed.alike) hp hb k1 k2 k3 T' rfl X'
    exact ⟨t2, st t2 a1, b1⟩
  · obtain ⟨k1, k2, k3⟩ := vx_keep h0 e1 hS hAX hf hL hF
    obtain ⟨t2, a1, b1⟩ := kx E ce q u t T'.heap (locs ++ L) e1.symm (by rw [← e2]; exact X'.warmed.alike) hp hb k1 k2 k3 (by rw [e1]; exact hce) hcv hcl T' rfl X'
    exact ⟨t2, st.trans a1, b1⟩
theorem vx_calll {S SX : Type} {post : Int64 → S → Prop} {px : SX → Prop} {B : S → State → Prop} {BX : String → SX → State → Prop} {AX : Nat → Prop} (hr : vx_Run p l e R s m args below meth c H locs cells slots mc ms (F0 m pc ls st0) rest (va_Ql post B A1 a) (vx_X px BX AX) free) (hS : va_S A0 H0 H locs) (hA : ∀ q, q < H.size → A1 q → A0 q) (hf : ∀ q, free q → A0 q) (hAX : ∀ q, q < H.size → AX q → A0 q)
    (kx : ∀ (E : String) (ce : Cell) (q9 : Addr) (u : SX) (t : State) (H1 : Heap) (locs1 : List Loc), t.heap = H1 → s.vm.Alike t.vm → px u → BX E u t → H.size ≤ H1.size → (∀ q : Nat, q < H.size → ¬ AX q → H1[q]? = H[q]?) → va_S A0 H0 H1 locs1 → H1[q9]? = some ce → ce.vm = .none → s.vm.findClass E = some ce.cls → vx_W p l e R s m args below meth c H1 locs1 (cells + mc) (slots + ms) Q (F0 m pc ls rest) q9)
    (kk : ∀ (r : Int64) (u : S) (t : State) (H1 : Heap) (locs1 : List Loc), t.heap = H1 → s.vm.Alike t.vm → post r u → B u t → H.size ≤ H1.size → (∀ q : Nat, q < H.size → ¬ A1 q → H1[q]? = H[q]?) → va_S A0 H0 H1 locs1 → W p l e R s m args below meth c H1 locs1 (cells + mc) (slots + ms) Q (F0 m (pc + 3) ls (.long r :: rest))) : W p l e R s m args below meth c H locs cells slots Q (F0 m pc ls st0) := by
  intro T hT X
  rcases hr T hT X with ⟨v, st₀, t, T', L, h0, X', hL, e1, e2, ⟨⟨r, u, hv, hp, hb⟩, hF⟩, st⟩ | ⟨q, st₀, t, T', L, E, ce, h0, X', hL, e1, e2, ⟨u, hp, hb, hF⟩, hce, hcv, hcl, st⟩
  · cases hv
    obtain ⟨k1, k2, k3⟩ := vx_keep h0 e1 hS hA hf hL hF
    obtain ⟨t2, a1, b1⟩ := kk r u t T'.heap (locs ++ L) e1.symm (by rw [← e2]; exact X'.warmed.alike) hp hb k1 k2 k3 T' rfl X'
    exact ⟨t2, st t2 a1, b1⟩
  · obtain ⟨k1, k2, k3⟩ := vx_keep h0 e1 hS hAX hf hL hF
    obtain ⟨t2, a1, b1⟩ := kx E ce q u t T'.heap (locs ++ L) e1.symm (by rw [← e2]; exact X'.warmed.alike) hp hb k1 k2 k3 (by rw [e1]; exact hce) hcv hcl T' rfl X'
    exact ⟨t2, st.trans a1, b1⟩
theorem vx_callf {S SX : Type} {post : UInt32 → S → Prop} {px : SX → Prop} {B : S → State → Prop} {BX : String → SX → State → Prop} {AX : Nat → Prop} (hr : vx_Run p l e R s m args below meth c H locs cells slots mc ms (F0 m pc ls st0) rest (va_Qf post B A1 a) (vx_X px BX AX) free) (hS : va_S A0 H0 H locs) (hA : ∀ q, q < H.size → A1 q → A0 q) (hf : ∀ q, free q → A0 q) (hAX : ∀ q, q < H.size → AX q → A0 q)
    (kx : ∀ (E : String) (ce : Cell) (q9 : Addr) (u : SX) (t : State) (H1 : Heap) (locs1 : List Loc), t.heap = H1 → s.vm.Alike t.vm → px u → BX E u t → H.size ≤ H1.size → (∀ q : Nat, q < H.size → ¬ AX q → H1[q]? = H[q]?) → va_S A0 H0 H1 locs1 → H1[q9]? = some ce → ce.vm = .none → s.vm.findClass E = some ce.cls → vx_W p l e R s m args below meth c H1 locs1 (cells + mc) (slots + ms) Q (F0 m pc ls rest) q9)
    (kk : ∀ (r : UInt32) (u : S) (t : State) (H1 : Heap) (locs1 : List Loc), t.heap = H1 → s.vm.Alike t.vm → post r u → B u t → H.size ≤ H1.size → (∀ q : Nat, q < H.size → ¬ A1 q → H1[q]? = H[q]?) → va_S A0 H0 H1 locs1 → W p l e R s m args below meth c H1 locs1 (cells + mc) (slots + ms) Q (F0 m (pc + 3) ls (.float r :: rest))) : W p l e R s m args below meth c H locs cells slots Q (F0 m pc ls st0) := by
  intro T hT X
  rcases hr T hT X with ⟨v, st₀, t, T', L, h0, X', hL, e1, e2, ⟨⟨r, u, hv, hp, hb⟩, hF⟩, st⟩ | ⟨q, st₀, t, T', L, E, ce, h0, X', hL, e1, e2, ⟨u, hp, hb, hF⟩, hce, hcv, hcl, st⟩
  · cases hv
    obtain ⟨k1, k2, k3⟩ := vx_keep h0 e1 hS hA hf hL hF
    obtain ⟨t2, a1, b1⟩ := kk r u t T'.heap (locs ++ L) e1.symm (by rw [← e2]; exact X'.warmed.alike) hp hb k1 k2 k3 T' rfl X'
    exact ⟨t2, st t2 a1, b1⟩
  · obtain ⟨k1, k2, k3⟩ := vx_keep h0 e1 hS hAX hf hL hF
    obtain ⟨t2, a1, b1⟩ := kx E ce q u t T'.heap (locs ++ L) e1.symm (by rw [← e2]; exact X'.warmed.alike) hp hb k1 k2 k3 (by rw [e1]; exact hce) hcv hcl T' rfl X'
    exact ⟨t2, st.trans a1, b1⟩
theorem vx_calld {S SX : Type} {post : UInt64 → S → Prop} {px : SX → Prop} {B : S → State → Prop} {BX : String → SX → State → Prop} {AX : Nat → Prop} (hr : vx_Run p l e R s m args below meth c H locs cells slots mc ms (F0 m pc ls st0) rest (va_Qd post B A1 a) (vx_X px BX AX) free) (hS : va_S A0 H0 H locs) (hA : ∀ q, q < H.size → A1 q → A0 q) (hf : ∀ q, free q → A0 q) (hAX : ∀ q, q < H.size → AX q → A0 q)
    (kx : ∀ (E : String) (ce : Cell) (q9 : Addr) (u : SX) (t : State) (H1 : Heap) (locs1 : List Loc), t.heap = H1 → s.vm.Alike t.vm → px u → BX E u t → H.size ≤ H1.size → (∀ q : Nat, q < H.size → ¬ AX q → H1[q]? = H[q]?) → va_S A0 H0 H1 locs1 → H1[q9]? = some ce → ce.vm = .none → s.vm.findClass E = some ce.cls → vx_W p l e R s m args below meth c H1 locs1 (cells + mc) (slots + ms) Q (F0 m pc ls rest) q9)
    (kk : ∀ (r : UInt64) (u : S) (t : State) (H1 : Heap) (locs1 : List Loc), t.heap = H1 → s.vm.Alike t.vm → post r u → B u t → H.size ≤ H1.size → (∀ q : Nat, q < H.size → ¬ A1 q → H1[q]? = H[q]?) → va_S A0 H0 H1 locs1 → W p l e R s m args below meth c H1 locs1 (cells + mc) (slots + ms) Q (F0 m (pc + 3) ls (.double r :: rest))) : W p l e R s m args below meth c H locs cells slots Q (F0 m pc ls st0) := by
  intro T hT X
  rcases hr T hT X with ⟨v, st₀, t, T', L, h0, X', hL, e1, e2, ⟨⟨r, u, hv, hp, hb⟩, hF⟩, st⟩ | ⟨q, st₀, t, T', L, E, ce, h0, X', hL, e1, e2, ⟨u, hp, hb, hF⟩, hce, hcv, hcl, st⟩
  · cases hv
    obtain ⟨k1, k2, k3⟩ := vx_keep h0 e1 hS hA hf hL hF
    obtain ⟨t2, a1, b1⟩ := kk r u t T'.heap (locs ++ L) e1.symm (by rw [← e2]; exact X'.warmed.alike) hp hb k1 k2 k3 T' rfl X'
    exact ⟨t2, st t2 a1, b1⟩
  · obtain ⟨k1, k2, k3⟩ := vx_keep h0 e1 hS hAX hf hL hF
    obtain ⟨t2, a1, b1⟩ := kx E ce q u t T'.heap (locs ++ L) e1.symm (by rw [← e2]; exact X'.warmed.alike) hp hb k1 k2 k3 (by rw [e1]; exact hce) hcv hcl T' rfl X'
    exact ⟨t2, st.trans a1, b1⟩
theorem vx_callv {S SX : Type} {post : S → Prop} {px : SX → Prop} {B : S → State → Prop} {BX : String → SX → State → Prop} {AX : Nat → Prop} (hr : vx_Run p l e R s m args below meth c H locs cells slots mc ms (F0 m pc ls st0) rest (va_Qv post B A1 a) (vx_X px BX AX) free) (hS : va_S A0 H0 H locs) (hA : ∀ q, q < H.size → A1 q → A0 q) (hf : ∀ q, free q → A0 q) (hAX : ∀ q, q < H.size → AX q → A0 q)
    (kx : ∀ (E : String) (ce : Cell) (q9 : Addr) (u : SX) (t : State) (H1 : Heap) (locs1 : List Loc), t.heap = H1 → s.vm.Alike t.vm → px u → BX E u t → H.size ≤ H1.size → (∀ q : Nat, q < H.size → ¬ AX q → H1[q]? = H[q]?) → va_S A0 H0 H1 locs1 → H1[q9]? = some ce → ce.vm = .none → s.vm.findClass E = some ce.cls → vx_W p l e R s m args below meth c H1 locs1 (cells + mc) (slots + ms) Q (F0 m pc ls rest) q9)
    (kk : ∀ (u : S) (t : State) (H1 : Heap) (locs1 : List Loc), t.heap = H1 → s.vm.Alike t.vm → post u → B u t → H.size ≤ H1.size → (∀ q : Nat, q < H.size → ¬ A1 q → H1[q]? = H[q]?) → va_S A0 H0 H1 locs1 → W p l e R s m args below meth c H1 locs1 (cells + mc) (slots + ms) Q (F0 m (pc + 3) ls (rest))) : W p l e R s m args below meth c H locs cells slots Q (F0 m pc ls st0) := by
  intro T hT X
  rcases hr T hT X with ⟨v, st₀, t, T', L, h0, X', hL, e1, e2, ⟨⟨u, hv, hp, hb⟩, hF⟩, st⟩ | ⟨q, st₀, t, T', L, E, ce, h0, X', hL, e1, e2, ⟨u, hp, hb, hF⟩, hce, hcv, hcl, st⟩
  · cases hv
    obtain ⟨k1, k2, k3⟩ := vx_keep h0 e1 hS hA hf hL hF
    obtain ⟨t2, a1, b1⟩ := kk u t T'.heap (locs ++ L) e1.symm (by rw [← e2]; exact X'.warmed.alike) hp hb k1 k2 k3 T' rfl X'
    exact ⟨t2, st t2 a1, b1⟩
  · obtain ⟨k1, k2, k3⟩ := vx_keep h0 e1 hS hAX hf hL hF
    obtain ⟨t2, a1, b1⟩ := kx E ce q u t T'.heap (locs ++ L) e1.symm (by rw [← e2]; exact X'.warmed.alike) hp hb k1 k2 k3 (by rw [e1]; exact hce) hcv hcl T' rfl X'
    exact ⟨t2, st.trans a1, b1⟩
/-- caught by the row x of this method's table; the rows ahead don't take it -/
theorem vx_catch {own name : String} {E : String} {ce : Cell} {q : Addr} (hown : s.vm.findClass own = some m.cls) (pre : List ExceptionTableEntry) (x : ExceptionTableEntry) (suf : List ExceptionTableEntry) (hsplit : c.exceptionTable.toList = pre ++ x :: suf)
    (hpass : ∀ z ∈ pre, covers z pc = false ∨ (z.catchType ≠ 0 ∧ ∃ nm : String, (Cond.classLink own z.catchType nm).before args s = true ∧ va_Nc E nm s)) (hx : covers x pc = true) (h0 : x.catchType ≠ 0)
    (hlink : (Cond.classLink own x.catchType name).before args s = true) (hcast : (Cond.castable E name).before args s = true) (hcell : H[q]? = some ce) (hv : ce.vm = .none) (hcl : s.vm.findClass E = some ce.cls)
    (kk : W p l e R s m args below meth c H locs cells slots Q (F0 m x.handlerPc ls [.ref q])) : vx_W p l e R s m args below meth c H locs cells slots Q (F0 m pc ls rest) q := by
  intro T hT X
  have hpl : e.platform.magicAccessors = ({} : Platform).magicAccessors := by rw [X.admits.platform]
  obtain ⟨c3, c4, hc3, hc4, hasg⟩ := Cond.castable_spec hcast
  cases Option.some.inj (hc3.symm.trans hcl)
  obtain ⟨c5, hc5, hcl5⟩ := Cond.classLink_spec hown hlink e.platform hpl
  cases Option.some.inj (hc4.symm.trans hc5)
  obtain ⟨vm', X', st⟩ := X.thenCaughtThrough q (g := F0 m pc ls rest) rfl (Steps.refl _) (by rw [hT]; exact hcell) (by rw [hv]; rfl) (by obtain ⟨k9, h9, -⟩ := Vm.findClass_spec hcl; exact ⟨k9, h9⟩) pre x suf hsplit
    (fun z hz => by
      rcases hpass z hz with h | ⟨hz0, nm, hl1, hn1⟩
      · exact Or.inl h
      · obtain ⟨c6, hc6, hcl6⟩ := Cond.classLink_spec hown hl1 e.platform hpl
        obtain ⟨a8, b8, h1, h2, h3⟩ := hn1
        cases Option.some.inj (h1.symm.trans hcl)
        cases Option.some.inj (h2.symm.trans hc6)
        exact Or.inr ⟨hz0, _, hcl6, h3⟩) hx (Or.inr ⟨h0, c4, hcl5, hasg⟩)
  obtain ⟨t, a1, b1⟩ := kk (T.setVm vm') hT X'
  exact ⟨t, st.trans a1, b1⟩
end Rows
section Ends
variable {p : Program} {l : Launch} {e : Env} {R : Room} {s : State} {m : MethodId} {args : Array Value} {below : List Frame} {meth : Method} {c : Code} {H : Heap} {locs : List Loc} {cells slots : Nat} {Q : State → Prop}
variable {mc ms : Nat} {free : Addr → Prop} {A0 A1 : Nat → Prop} {H0 : Heap} {a : Array Value} {ls : Array Slot} {st0 rest : List Value}
variable {Qc : Array Value → State → Outcome → State → Prop} {XC : String → State → State → Prop}
/-- what a body that may throw owes at its end -/
def vx_MQ (below : List Frame) (Qc : Array Value → State → Outcome → State → Prop) (XC : String → State → State → Prop) (a : Array Value) (s : State) (mc ms : Nat) (free : Addr → Prop) : State → Prop := fun t =>
  ∃ o, t.status = .running ∧ Ended t below o ∧ vx_Q Qc XC mc ms free a s o t
theorem vx_ret {g : JFrame} {mc ms : Nat} (k : W p l e R s m args below meth c H locs cells slots (MQ below Qc args s mc ms free) g) : W p l e R s m args below meth c H locs cells slots (vx_MQ below Qc XC args s mc ms free) g := by
  intro T hT X
  obtain ⟨t, a1, o, b1, b2, b3, b4⟩ := k T hT X
  exact ⟨t, a1, o, b1, b2, Or.inl ⟨b3, b4⟩⟩
/-- not caught here: it goes on to the caller -/
theorem vx_widen {g : JFrame} {q : Addr} {k n : Nat} (h1 : cells ≤ k) (h2 : slots ≤ n) (kk : vx_W p l e R s m args below meth c H locs k n Q g q) : vx_W p l e R s m args below meth c H locs cells slots Q g q := fun T hT X => kk T hT (stand_widen X h1 h2)
theorem vx_out {pc : Nat} {E : String} {ce : Cell} {q : Addr} {mc ms : Nat} (hout : ∀ x ∈ c.exceptionTable.toList, covers x pc = false) (hlocks : meth.locks = false) (hcell : H[q]? = some ce) (hv : ce.vm = .none) (hcl : s.vm.findClass E = some ce.cls)
    (hx : ∀ t : State, t.heap = H → s.vm.Alike t.vm → XC E s t) (hf : ∀ z ∈ locs, free z.base) (hc : cells ≤ mc) (hs : slots ≤ ms) :
    vx_W p l e R s m args below meth c H locs cells slots (vx_MQ below Qc XC args s mc ms free) (F0 m pc ls rest) q := by
  intro T hT X
  obtain ⟨st1, hrun, hend, hW, hsm⟩ := X.leaveThrown q (g := F0 m pc ls rest) rfl rfl rfl hout hlocks
  have hcell9 : (T.setFrames (.throwing q :: below)).heap[q]? = some ce := by
    show T.heap[q]? = some ce
    rw [hT]; exact hcell
  exact ⟨_, st1, .threw q, hrun, hend, Or.inr ⟨q, rfl, E, ce, locs, hx _ hT hW.alike, hcell9, hv, hcl, hW, hsm.mono hc hs, hf⟩⟩
theorem vx_frame {U : State} {k n : Nat} (h : s.sameButNew ({ U with vm := s.vm } : State) locs k n) : s.heap.size ≤ U.heap.size ∧ ∀ q : Nat, q < s.heap.size → (∀ z ∈ locs, z.base ≠ q) → U.heap[q]? = s.heap[q]? := by
  obtain ⟨-, h2, -, -, -, h6⟩ := h
  refine ⟨h2, fun q hq hz => ?_⟩
  obtain ⟨c9, e1, e2, e3, e4⟩ := h6 q _ (Array.getElem?_eq_getElem hq)
  have hs : c9.slots = (s.heap[q]).slots := Array.ext_getElem? fun i => e4 i fun hm => hz _ hm rfl
  have h9 : c9 = s.heap[q] := by
    rw [hs] at e2
    exact e2
  have e5 : U.heap[q]? = some c9 := e1
  rw [e5, h9, Array.getElem?_eq_getElem hq]
/-- the words of a throw but the four that speak of the heap -/
def vx_no (w : Cond) : Bool := decide (w ≠ .isRef (.static Bundle.tN "UNASSIGNED_STACK" Bundle.steD)) && decide (w ≠ .isRef (.static Bundle.tN "SUPPRESSED_SENTINEL" Bundle.listD)) && decide (w ≠ .laysStatic Bundle.tN "UNASSIGNED_STACK" Bundle.steD) && decide (w ≠ .laysStatic Bundle.tN "SUPPRESSED_SENTINEL" Bundle.listD)
def vx_at0 (own : String) (ic : Nat) (X : String) (names : List String) : List Cond := (Bundle.ownAtoms0 own ic X names).filter vx_no
def vx_atS (own : String) (ic : Nat) (X : String) (names : List String) : List Cond := (Bundle.ownAtoms own ic X names).filter vx_no
/-- a word that the tables alone decide, or a good one -/
def vx_ot (w : Cond) : Bool := w.onTables || goodWord w
theorem vx_ot_at {args a' : Array Value} {s U : State} {w : Cond} (hW : s.WarmedH U.vm) (hvm : s.vm = U.vm) (hg : vx_ot w = true) (h : w.before args s = true) : w.before a' U = true := by
  simp only [vx_ot, Bool.or_eq_true] at hg
  rcases hg with hg | hg
  · exact va_tabs hg hvm h
  · exact word_at hW (good_of_word hg) h
/-- a list's words: the good ones out of the method's own list, the others by premises of their own -/
theorem vx_hat {args : Array Value} {s : State} {L B : List Cond} (h1 : ∀ w ∈ L.filter goodWord, w.before args s = true) (h2 : ∀ w ∈ L.filter (fun w => !goodWord w), w ∈ B) (h3 : ∀ w ∈ B, w.before args s = true) : ∀ w ∈ L, w.before args s = true := by
  intro w hw
  by_cases g : goodWord w = true
  · exact h1 w (List.mem_filter.mpr ⟨hw, g⟩)
  · refine h3 w (h2 w (List.mem_filter.mpr ⟨hw, ?_⟩))
    show (!goodWord w) = true
    cases hgw : goodWord w
    · rfl
    · exact absurd hgw g
theorem vx_c {args : Array Value} {s : State} {w : Cond} {B : List Cond} (h : w.before args s = true) (t : ∀ w ∈ B, w.before args s = true) : ∀ w' ∈ w :: B, w'.before args s = true := fun w' h' => (List.mem_cons.mp h').elim (fun e => by rw [e]; exact h) (t w')
theorem vx_n {args : Array Value} {s : State} : ∀ w ∈ ([] : List Cond), w.before args s = true := fun _ h => nomatch h
theorem vx_own {args : Array Value} {s : State} {L : List Cond} (h1 : ∀ w ∈ L.filter vx_no, w.before args s = true)
    (hU : (Cond.isRef (.static Bundle.tN "UNASSIGNED_STACK" Bundle.steD)).before args s = true) (hN : (Cond.isRef (.static Bundle.tN "SUPPRESSED_SENTINEL" Bundle.listD)).before args s = true)
    (lU : (Cond.laysStatic Bundle.tN "UNASSIGNED_STACK" Bundle.steD).before args s = true) (lN : (Cond.laysStatic Bundle.tN "SUPPRESSED_SENTINEL" Bundle.listD).before args s = true) : ∀ w ∈ L, w.before args s = true := by
  intro w hw
  by_cases e1 : w = .isRef (.static Bundle.tN "UNASSIGNED_STACK" Bundle.steD)
  · rw [e1]; exact hU
  · by_cases e2 : w = .isRef (.static Bundle.tN "SUPPRESSED_SENTINEL" Bundle.listD)
    · rw [e2]; exact hN
    · by_cases e3 : w = .laysStatic Bundle.tN "UNASSIGNED_STACK" Bundle.steD
      · rw [e3]; exact lU
      · by_cases e4 : w = .laysStatic Bundle.tN "SUPPRESSED_SENTINEL" Bundle.listD
        · rw [e4]; exact lN
        · exact h1 w (List.mem_filter.mpr ⟨hw, by unfold vx_no; rw [decide_eq_true e1, decide_eq_true e2, decide_eq_true e3, decide_eq_true e4]; rfl⟩)
/-- where a static field lies, its class's statics cell in H -/
def vx_L (C n d : String) (A : Nat → Prop) (U : State) (H : Heap) : Prop := ∃ (c : ClassId) (k : Class) (i : Nat) (f : Field) (a : Nat) (cell : Cell), U.vm.findClass C = some c ∧ U.fieldFound? C n d = some (c, k, i, f) ∧ f.isStatic = true ∧ k.statics = some a ∧ H[a]? = some cell ∧ cell.vm.isStatics = true ∧ cell.cls = c ∧ f.slot < cell.slots.size ∧ k.staticTypes[f.slot]? = some f.type ∧ ¬ A a
theorem vx_L.moved {C n d : String} {A : Nat → Prop} {u U : State} {H : Heap} (hvm : u.vm.Alike U.vm) (h : vx_L C n d A u H) : vx_L C n d A U H := by
  obtain ⟨c, k, i, f, a, cell, h1, h2, h3, h4, h5, h6, h7, h8, h9, h10⟩ := h
  obtain ⟨k', hi', he⟩ := State.fieldFound?_setVm hvm h2
  exact ⟨c, k', i, f, a, cell, by rw [hvm.findClass]; exact h1, hi', h3, by rw [he]; exact h4, h5, h6, h7, h8, by rw [he]; exact h9, h10⟩
theorem vx_L.kept {C n d : String} {A : Nat → Prop} {U : State} {H H1 : Heap} (h : vx_L C n d A U H) (hq : ∀ a : Nat, a < H.size → ¬ A a → H1[a]? = H[a]?) : vx_L C n d A U H1 := by
  obtain ⟨c, k, i, f, a, cell, h1, h2, h3, h4, h5, h6, h7, h8, h9, h10⟩ := h
  exact ⟨c, k, i, f, a, cell, h1, h2, h3, h4, by rw [hq a (Array.getElem?_eq_some_iff.mp h5).1 h10]; exact h5, h6, h7, h8, h9, h10⟩
theorem vx_L.narrow {C n d : String} {A B : Nat → Prop} {U : State} {H : Heap} (h : vx_L C n d A U H) (hAB : ∀ q, B q → A q) : vx_L C n d B U H := by
  obtain ⟨c, k, i, f, a, cell, h1, h2, h3, h4, h5, h6, h7, h8, h9, h10⟩ := h
  exact ⟨c, k, i, f, a, cell, h1, h2, h3, h4, h5, h6, h7, h8, h9, fun z => h10 (hAB _ z)⟩
theorem vx_L.word {C n d : String} {A : Nat → Prop} {s : State} {args : Array Value} (h : vx_L C n d A s s.heap) : (Cond.laysStatic C n d).before args s = true := by
  obtain ⟨c, k, i, f, a, cell, h1, h2, h3, h4, h5, h6, h7, h8, h9, -⟩ := h
  show (Cond.laysStatic C n d).holds args s none s [] = true
  exact Cond.laysStatic_of h1 h2 h3 h4 h5 h6 h7 h8 h9
/-- .. and what it holds: null or some reference -/
def vx_Zq (C n d : String) (A : Nat → Prop) (U : State) (H : Heap) : Prop := va_Zq C n d A U H ∧ vx_L C n d A U H
theorem vx_Zq.moved {C n d : String} {A : Nat → Prop} {u U : State} {H : Heap} (hvm : u.vm.Alike U.vm) (h : vx_Zq C n d A u H) : vx_Zq C n d A U H := ⟨va_Zq.moved hvm h.1, vx_L.moved hvm h.2⟩
theorem vx_Zq.kept {C n d : String} {A : Nat → Prop} {U : State} {H H1 : Heap} (h : vx_Zq C n d A U H) (hq : ∀ a : Nat, a < H.size → ¬ A a → H1[a]? = H[a]?) : vx_Zq C n d A U H1 := ⟨va_Zq.kept h.1 hq, vx_L.kept h.2 hq⟩
theorem vx_Zq.narrow {C n d : String} {A B : Nat → Prop} {U : State} {H : Heap} (h : vx_Zq C n d A U H) (hAB : ∀ q, B q → A q) : vx_Zq C n d B U H := ⟨va_Zq.narrow h.1 hAB, vx_L.narrow h.2 hAB⟩
theorem vx_Zqof {args : Array Value} {s : State} {C n d : String} {A : Nat → Prop} (hl : (Cond.laysStatic C n d).before args s = true) (hini : (Cond.initialized C).before args s = true) (h : (Cond.isRef (.static C n d)).before args s = true) (hA : ∀ a : Nat, a < s.heap.size → ¬ A a) : vx_Zq C n d A s s.heap := by
  refine ⟨va_Zqof hl hini h hA, ?_⟩
  obtain ⟨c, k, i, f, a, cell, h1, h2, h3, h4, h5, h6, h7, h8, h9⟩ := Cond.laysStatic_spec hl
  exact ⟨c, k, i, f, a, cell, h1, h2, h3, h4, h5, h6, h7, h8, h9, hA a (Array.getElem?_eq_some_iff.mp h5).1⟩
theorem vx_isRef {C n d : String} {v : Value} {A : Nat → Prop} {s : State} {args : Array Value} (h : va_Z C n d v A s s.heap) (hv : v.isRef = true) : (Cond.isRef (.static C n d)).before args s = true := by
  obtain ⟨cf, kf, fi, f, a, cell, h1, h2, h3, h4, h5, h6, h7, -⟩ := h
  have he : (Term.static C n d).eval args s none [] s = some v := by
    simp [Term.eval, State.fieldNamed?, h1, h2, h4, h5, h6, h7]
  simp only [Cond.before, Cond.holds, Cond.value, he]
  cases v <;> simp_all [Value.isRef]
theorem vx_isRefq {C n d : String} {A : Nat → Prop} {s : State} {args : Array Value} (h : va_Zq C n d A s s.heap) : (Cond.isRef (.static C n d)).before args s = true := by
  rcases h with h | ⟨t, h⟩
  · exact vx_isRef h rfl
  · exact vx_isRef h rfl
/-- the same frame, seen from here: as if the method were called anew in this heap -/
theorem vx_rebase {T : State} (X : Stand p l e R s m args below meth c T locs cells slots) {R' : Room} (hf : R'.frames ≤ R.frames) (hl : R'.locals ≤ R.locals) (hc : cells + R'.cells ≤ R.cells) (hs : slots + R'.slots ≤ R.slots) :
    Stand p l e R' ((T.setVm s.vm).setFrames (.invoking m args :: below)) m args below meth c T [] 0 0 := by
  have htop : (T.setVm s.vm).topJava?.isSome := X.here.top
  have hF : ((T.setVm s.vm).setFrames (.invoking m args :: below)).frames = .invoking m args :: below := State.frames_setFrames _ (State.cur_lt_of_top htop)
  obtain ⟨g₀, hg0⟩ := Option.isSome_iff_exists.mp htop
  obtain ⟨r, hr⟩ := State.topJava?_eq_some.mp hg0
  have hl9 : e.platform.stackLimits (T.setVm s.vm).me = e.platform.stackLimits s.me := X.limits
  have hb9 : (T.setVm s.vm).me.stackBytes = s.me.stackBytes := X.bytes
  refine ⟨X.admits, X.cas, X.clock, hF, ?_, X.hears, X.method, X.code, X.here, X.tail, X.warmed, ?_, ?_, ?_⟩
  · have h := X.room
    have hU : ((T.setVm s.vm).setFrames (.invoking m args :: below)).localsInUse = s.localsInUse := by
      rw [State.localsInUse_invoking hF (meth := meth) (c := c) X.method X.code, State.localsInUse_invoking X.frames X.method X.code]
    simp only [State.hasRoom, Bool.and_eq_true, decide_eq_true_eq] at h ⊢
    obtain ⟨⟨⟨⟨h1, h2, h3, h4, h5, h6⟩, h7⟩, h8⟩, h9⟩ := h
    rw [X.frames, List.length_cons] at h2 h3
    have q1 := X.heapSize
    have q2 := X.used
    simp only [hF, hU, List.length_cons, State.stackLimits_setFrames, State.stackBytes_setFrames, hl9, hb9]
    refine ⟨⟨⟨⟨by omega, by omega, by omega, by omega, by omega, h6⟩, ?_⟩, ?_⟩, X.book⟩
    · show T.heap.size + R'.cells ≤ e.platform.maxCells
      omega
    · show T.slotsUsed + R'.slots ≤ e.platform.maxSlots
      omega
  · rw [State.stackLimits_setFrames]; rfl
  · rw [State.stackBytes_setFrames]; rfl
  · refine ⟨?_, Nat.le_refl _, Nat.le_refl _, ?_, ?_, fun a c9 h9 => ⟨c9, h9, rfl, rfl, fun _ _ => rfl⟩⟩
    · obtain ⟨t, ht, -⟩ := State.frames_cons hr
      show T.setVm s.vm = { ((T.setVm s.vm).setFrames (.invoking m args :: below)).setFrames (T.setVm s.vm).frames with heap := T.heap, slotsUsed := T.slotsUsed }
      rw [State.setFrames_setFrames, State.setFrames_self ht]
      rfl
    · show T.slotsUsed = T.slotsUsed + ((T.heap.toList.drop T.heap.size).map (·.slots.size)).sum
      rw [List.drop_eq_nil_of_le (Nat.le_of_eq Array.length_toList)]
      rfl
    · show ((T.heap.toList.drop T.heap.size).map (·.slots.size)).sum ≤ 0
      rw [List.drop_eq_nil_of_le (Nat.le_of_eq Array.length_toList)]
      exact Nat.le_refl _
/-- 'throw new E()': new; dup; invokespecial; athrow -/
theorem vx_throw0 {cc : ByteArray} {pc : Nat} (hexec : p.tables.exec = Jvm.exec) (hb : c.code = cc) (hl : l.stackTraces = false) {own cls : String} {names : List String} {ik ic mc ms : Nat} {A : Nat → Prop}
    (hown : s.vm.findClass own = some m.cls) (hcls : Bundle.fit cls = true) (hnames : ∀ n ∈ names, Bundle.fit n = true)
    (hk : (Cond.classLink own ik cls).before args s = true) (hini : (Cond.initialized cls).before args s = true) (hat : ∀ w ∈ vx_at0 own ic cls names, w.before args s = true)
    (hgood : ∀ w ∈ Cond.classLink own ik cls :: Cond.initialized cls :: vx_at0 own ic cls names, vx_ot w = true)
    (hU : vx_Zq Bundle.tN "UNASSIGNED_STACK" Bundle.steD A s s.heap) (hN : vx_Zq Bundle.tN "SUPPRESSED_SENTINEL" Bundle.listD A s s.heap) (hS : va_S A s.heap H locs) (hsize : ls.size = c.maxLocals)
    (d0 : decode cc pc = .ok (.new ik, 3)) (d3 : decode cc (pc + 3) = .ok (.dup, 1)) (d4 : decode cc (pc + 4) = .ok (.invokespecial ic, 3)) (d7 : decode cc (pc + 7) = .ok (.athrow, 1))
    (hout : ∀ x ∈ c.exceptionTable.toList, covers x (pc + 7) = false)
    (hRframes : names.length + 3 < R.frames) (hRlocals : (rest.map fun v => v.category).sum + (13 * (names.length + 1) + 42) ≤ R.locals) (hRcells : cells + 1 ≤ R.cells) (hRslots : slots + 6 ≤ R.slots) (hlocks : meth.locks = false)
    (hx : ∀ t : State, s.vm.Alike t.vm → H.size ≤ t.heap.size → (∀ q : Nat, q < H.size → t.heap[q]? = H[q]?) → XC cls s t)
    (hf : ∀ z ∈ locs, free z.base) (hc : cells + 1 ≤ mc) (hs : slots + 6 ≤ ms) :
    W p l e R s m args below meth c H locs cells slots (vx_MQ below Qc XC args s mc ms free) (F0 m pc ls rest) := by
  intro T hT X
  have htr : e.platform.stackTraces = false := (show e.platform.stackTraces = l.stackTraces by rw [X.admits.platform]).trans hl
  have Y := vx_rebase X (R' := { frames := R.frames, locals := R.locals, cells := 1, slots := 6 }) (Nat.le_refl _) (Nat.le_refl _) hRcells hRslots
  obtain ⟨s', hA⟩ : ∃ z, z = (T.setVm s.vm).setFrames (.invoking m args :: below) := ⟨_, rfl⟩
  rw [← hA] at Y
  have hvm : s'.vm = s.vm := by rw [hA]; rfl
  have hhp : s'.heap = H := by rw [hA]; exact hT
  have hW0 : s.WarmedH s'.vm := by rw [hvm]; exact State.WarmedH.refl s
  have hat' : ∀ w ∈ vx_at0 own ic cls names, w.before args s' = true := fun w hw => vx_ot_at hW0 hvm.symm (hgood w (List.mem_cons_of_mem _ (List.mem_cons_of_mem _ hw))) (hat w hw)
  have hk' : (Cond.classLink own ik cls).before args s' = true := vx_ot_at hW0 hvm.symm (hgood _ List.mem_cons_self) hk
  have hini' : (Cond.initialized cls).before args s' = true := vx_ot_at hW0 hvm.symm (hgood _ (List.mem_cons_of_mem _ List.mem_cons_self)) hini
  have hU' : vx_Zq Bundle.tN "UNASSIGNED_STACK" Bundle.steD A s' s'.heap := by rw [hhp]; exact vx_Zq.moved hW0.alike (hU.kept hS.2.1)
  have hN' : vx_Zq Bundle.tN "SUPPRESSED_SENTINEL" Bundle.listD A s' s'.heap := by rw [hhp]; exact vx_Zq.moved hW0.alike (hN.kept hS.2.1)
  have h : ∀ w ∈ Bundle.ownAtoms0 own ic cls names, w.before args s' = true := vx_own hat' (vx_isRefq hU'.1) (vx_isRefq hN'.1) hU'.2.word hN'.2.word
  have hown' : s'.vm.findClass own = some m.cls := by rw [hvm]; exact hown
  have hins : (Cond.instantiable cls 6).before args s' = true := h _ (by simp [Bundle.ownAtoms0])
  obtain ⟨vm₁, cX, kX, hfX, hkX, -, -, X₁, st1⟩ := Y.newCold hexec (own := own) (C := cls) (index := ik) (n := 6) hown' hk' hins hini'
    (g := F0 m pc ls rest) rfl (by rw [hb]; exact d0) (Nat.le_refl _) (Nat.le_refl _)
  generalize hT1 : (T.setVm vm₁).pushCell { cls := cX, slots := kX.instanceTypes.map defaultValue, vm := .none } = T1 at X₁ st1
  have hcat : (Value.ref T.heap.size).category = 1 := rfl
  have hcellA : T1.heap[T.heap.size]? = some (freshCell cX kX) := by rw [← hT1]; exact State.heap_pushCell_size _ _
  have d3' : decode c.code (pc + 3) = .ok (.dup, 1) := by rw [hb]; exact d3
  obtain ⟨U, hsteps, hrun, hend, hW, hsame, ce, hce, hO⟩ := X₁.ctorThrow0 hexec htr (own := own) (cls := cls) (names := names) (ic := ic) hown' hcls hnames h (fun x hx => nomatch hx) hfX hkX hcellA (by rw [hhp, hT]; exact Nat.le_refl _)
    (g := { method := m, pc := pc + 4, locals := ls, stack := .ref T.heap.size :: .ref T.heap.size :: rest, locked := none }) rfl hsize rfl rfl (rest := rest) rfl
    (by rw [hb]; exact d4) (by rw [hb]; exact d7) hout hRframes (by simp only [List.map_cons, List.sum_cons, hcat]; omega) hlocks
  obtain ⟨f1, f2⟩ := vx_frame hsame
  rw [hhp] at f1 f2
  have hWs : s.WarmedH U.vm := State.WarmedH.trans hW0 hW
  have hcl : s.vm.findClass cls = some ce.cls := by
    have h9 := hO.cls
    rw [hvm] at h9
    exact h9
  have hall : s.sameButNew ({ U with vm := s.vm } : State) locs mc ms := by
    subst hA
    obtain ⟨e1, e2⟩ := hsame
    rw [State.setFrames_setFrames] at e1
    have h2 : (T.setVm s.vm).sameButNew ({ U with vm := s.vm } : State) [] (0 + 1) (0 + 6) := ⟨e1, e2⟩
    have h3 := X.same.trans h2
    rw [List.append_nil] at h3
    exact h3.mono hc hs
  refine ⟨U, ?_, .threw T.heap.size, hrun, hend, Or.inr ⟨T.heap.size, rfl, cls, ce, locs, hx U hWs.alike f1 (fun q hq => f2 q hq (fun z hz => nomatch hz)), hce, hO.vm, hcl, hWs, hall, hf⟩⟩
  refine st1 _ ?_
  show Steps p.tables e below (T1.setTop { method := m, pc := pc + 3, locals := ls, stack := .ref T.heap.size :: rest, locked := none }) _
  jvm_step X₁.here [X₁.here.top, hexec, d3', Value.category]
  exact hsteps
/-- 'throw new E("text")': new; dup; ldc; invokespecial; athrow -/
theorem vx_throwS {cc : ByteArray} {pc : Nat} (hexec : p.tables.exec = Jvm.exec) (hb : c.code = cc) (hl : l.stackTraces = false) {own cls text : String} {names : List String} {ik is ic mc ms sa : Nat} {A : Nat → Prop}
    (hown : s.vm.findClass own = some m.cls) (hcls : Bundle.fit cls = true) (hnames : ∀ n ∈ names, Bundle.fit n = true)
    (hk : (Cond.classLink own ik cls).before args s = true) (hini : (Cond.initialized cls).before args s = true) (hstr : vk_R own is text sa s) (hat : ∀ w ∈ vx_atS own ic cls names, w.before args s = true)
    (hgood : ∀ w ∈ Cond.classLink own ik cls :: Cond.initialized cls :: vx_atS own ic cls names, vx_ot w = true)
    (hU : vx_Zq Bundle.tN "UNASSIGNED_STACK" Bundle.steD A s s.heap) (hN : vx_Zq Bundle.tN "SUPPRESSED_SENTINEL" Bundle.listD A s s.heap) (hS : va_S A s.heap H locs) (hsize : ls.size = c.maxLocals)
    (d0 : decode cc pc = .ok (.new ik, 3)) (d3 : decode cc (pc + 3) = .ok (.dup, 1)) (d4 : decode cc (pc + 4) = .ok (.ldc is, 2)) (d6 : decode cc (pc + 6) = .ok (.invokespecial ic, 3)) (d9 : decode cc (pc + 9) = .ok (.athrow, 1))
    (hout : ∀ x ∈ c.exceptionTable.toList, covers x (pc + 9) = false)
    (hRframes : names.length + 3 < R.frames) (hRlocals : (rest.map fun v => v.category).sum + (13 * (names.length + 1) + 43) ≤ R.locals) (hRcells : cells + 1 ≤ R.cells) (hRslots : slots + 6 ≤ R.slots) (hlocks : meth.locks = false)
    (hx : ∀ t : State, s.vm.Alike t.vm → H.size ≤ t.heap.size → (∀ q : Nat, q < H.size → t.heap[q]? = H[q]?) → XC cls s t)
    (hf : ∀ z ∈ locs, free z.base) (hc : cells + 1 ≤ mc) (hs : slots + 6 ≤ ms) :
    W p l e R s m args below meth c H locs cells slots (vx_MQ below Qc XC args s mc ms free) (F0 m pc ls rest) := by
  intro T hT X
  have htr : e.platform.stackTraces = false := (show e.platform.stackTraces = l.stackTraces by rw [X.admits.platform]).trans hl
  have Y := vx_rebase X (R' := { frames := R.frames, locals := R.locals, cells := 1, slots := 6 }) (Nat.le_refl _) (Nat.le_refl _) hRcells hRslots
  obtain ⟨s', hA⟩ : ∃ z, z = (T.setVm s.vm).setFrames (.invoking m args :: below) := ⟨_, rfl⟩
  rw [← hA] at Y
  have hvm : s'.vm = s.vm := by rw [hA]; rfl
  have hhp : s'.heap = H := by rw [hA]; exact hT
  have hW0 : s.WarmedH s'.vm := by rw [hvm]; exact State.WarmedH.refl s
  have hat' : ∀ w ∈ vx_atS own ic cls names, w.before args s' = true := fun w hw => vx_ot_at hW0 hvm.symm (hgood w (List.mem_cons_of_mem _ (List.mem_cons_of_mem _ hw))) (hat w hw)
  have hk' : (Cond.classLink own ik cls).before args s' = true := vx_ot_at hW0 hvm.symm (hgood _ List.mem_cons_self) hk
  have hini' : (Cond.initialized cls).before args s' = true := vx_ot_at hW0 hvm.symm (hgood _ (List.mem_cons_of_mem _ List.mem_cons_self)) hini
  have hU' : vx_Zq Bundle.tN "UNASSIGNED_STACK" Bundle.steD A s' s'.heap := by rw [hhp]; exact vx_Zq.moved hW0.alike (hU.kept hS.2.1)
  have hN' : vx_Zq Bundle.tN "SUPPRESSED_SENTINEL" Bundle.listD A s' s'.heap := by rw [hhp]; exact vx_Zq.moved hW0.alike (hN.kept hS.2.1)
  have h : ∀ w ∈ Bundle.ownAtoms own ic cls names, w.before args s' = true := vx_own hat' (vx_isRefq hU'.1) (vx_isRefq hN'.1) hU'.2.word hN'.2.word
  have hown' : s'.vm.findClass own = some m.cls := by rw [hvm]; exact hown
  have hins : (Cond.instantiable cls 6).before args s' = true := h _ (by simp [Bundle.ownAtoms])
  obtain ⟨vm₁, cX, kX, hfX, hkX, -, -, X₁, st1⟩ := Y.newCold hexec (own := own) (C := cls) (index := ik) (n := 6) hown' hk' hins hini'
    (g := F0 m pc ls rest) rfl (by rw [hb]; exact d0) (Nat.le_refl _) (Nat.le_refl _)
  generalize hT1 : (T.setVm vm₁).pushCell { cls := cX, slots := kX.instanceTypes.map defaultValue, vm := .none } = T1 at X₁ st1
  have hcat : (Value.ref T.heap.size).category = 1 := rfl
  have hcellA : T1.heap[T.heap.size]? = some (freshCell cX kX) := by rw [← hT1]; exact State.heap_pushCell_size _ _
  have d3' : decode c.code (pc + 3) = .ok (.dup, 1) := by rw [hb]; exact d3
  have d4' : decode c.code (pc + 4) = .ok (.ldc is, 2) := by rw [hb]; exact d4
  have hstr' : vk_R own is text sa s' := vk_R.warm hW0 hstr
  obtain ⟨U, hsteps, hrun, hend, hW, hsame, ce, hce, hO⟩ := X₁.ctorThrowS hexec htr (own := own) (cls := cls) (names := names) (ic := ic) hown' hcls hnames h (fun x hx => nomatch hx) hfX hkX hcellA (by rw [hhp, hT]; exact Nat.le_refl _) (msg := .ref sa) rfl
    (g := { method := m, pc := pc + 6, locals := ls, stack := .ref sa :: .ref T.heap.size :: .ref T.heap.size :: rest, locked := none }) rfl hsize rfl rfl (rest := rest) rfl
    (by rw [hb]; exact d6) (by rw [hb]; exact d9) hout hRframes (by simp only [List.map_cons, List.sum_cons, hcat]; omega) hlocks
  obtain ⟨f1, f2⟩ := vx_frame hsame
  rw [hhp] at f1 f2
  have hWs : s.WarmedH U.vm := State.WarmedH.trans hW0 hW
  have hcl : s.vm.findClass cls = some ce.cls := by
    have h9 := hO.cls
    rw [hvm] at h9
    exact h9
  have hall : s.sameButNew ({ U with vm := s.vm } : State) locs mc ms := by
    subst hA
    obtain ⟨e1, e2⟩ := hsame
    rw [State.setFrames_setFrames] at e1
    have h2 : (T.setVm s.vm).sameButNew ({ U with vm := s.vm } : State) [] (0 + 1) (0 + 6) := ⟨e1, e2⟩
    have h3 := X.same.trans h2
    rw [List.append_nil] at h3
    exact h3.mono hc hs
  refine ⟨U, ?_, .threw T.heap.size, hrun, hend, Or.inr ⟨T.heap.size, rfl, cls, ce, locs, hx U hWs.alike f1 (fun q hq => f2 q hq (fun z hz => nomatch hz)), hce, hO.vm, hcl, hWs, hall, hf⟩⟩
  refine st1 _ ?_
  show Steps p.tables e below (T1.setTop { method := m, pc := pc + 3, locals := ls, stack := .ref T.heap.size :: rest, locked := none }) _
  jvm_step X₁.here [X₁.here.top, hexec, d3', Value.category]
  exact X₁.ldcString hexec (own := own) (text := text) (index := is) (a := sa) hown' hstr'.1 hstr'.2
    (g := { method := m, pc := pc + 4, locals := ls, stack := .ref T.heap.size :: .ref T.heap.size :: rest, locked := none }) rfl d4' _ hsteps
/-- 'throw new E("text")', the text by a wide index -/
theorem vx_throwSW {cc : ByteArray} {pc : Nat} (hexec : p.tables.exec = Jvm.exec) (hb : c.code = cc) (hl : l.stackTraces = false) {own cls text : String} {names : List String} {ik is ic mc ms sa : Nat} {A : Nat → Prop}
    (hown : s.vm.findClass own = some m.cls) (hcls : Bundle.fit cls = true) (hnames : ∀ n ∈ names, Bundle.fit n = true)
    (hk : (Cond.classLink own ik cls).before args s = true) (hini : (Cond.initialized cls).before args s = true) (hstr : vk_R own is text sa s) (hat : ∀ w ∈ vx_atS own ic cls names, w.before args s = true)
    (hgood : ∀ w ∈ Cond.classLink own ik cls :: Cond.initialized cls :: vx_atS own ic cls names, vx_ot w = true)
    (hU : vx_Zq Bundle.tN "UNASSIGNED_STACK" Bundle.steD A s s.heap) (hN : vx_Zq Bundle.tN "SUPPRESSED_SENTINEL" Bundle.listD A s s.heap) (hS : va_S A s.heap H locs) (hsize : ls.size = c.maxLocals)
    (d0 : decode cc pc = .ok (.new ik, 3)) (d3 : decode cc (pc + 3) = .ok (.dup, 1)) (d4 : decode cc (pc + 4) = .ok (.ldc_w is, 3)) (d7 : decode cc (pc + 7) = .ok (.invokespecial ic, 3)) (d10 : decode cc (pc + 10) = .ok (.athrow, 1))
    (hout : ∀ x ∈ c.exceptionTable.toList, covers x (pc + 10) = false)
    (hRframes : names.length + 3 < R.frames) (hRlocals : (rest.map fun v => v.category).sum + (13 * (names.length + 1) + 43) ≤ R.locals) (hRcells : cells + 1 ≤ R.cells) (hRslots : slots + 6 ≤ R.slots) (hlocks : meth.locks = false)
    (hx : ∀ t : State, s.vm.Alike t.vm → H.size ≤ t.heap.size → (∀ q : Nat, q < H.size → t.heap[q]? = H[q]?) → XC cls s t)
    (hf : ∀ z ∈ locs, free z.base) (hc : cells + 1 ≤ mc) (hs : slots + 6 ≤ ms) :
    W p l e R s m args below meth c H locs cells slots (vx_MQ below Qc XC args s mc ms free) (F0 m pc ls rest) := by
  intro T hT X
  have htr : e.platform.stackTraces = false := (show e.platform.stackTraces = l.stackTraces by rw [X.admits.platform]).trans hl
  have Y := vx_rebase X (R' := { frames := R.frames, locals := R.locals, cells := 1, slots := 6 }) (Nat.le_refl _) (Nat.le_refl _) hRcells hRslots
  obtain ⟨s', hA⟩ : ∃ z, z = (T.setVm s.vm).setFrames (.invoking m args :: below) := ⟨_, rfl⟩
  rw [← hA] at Y
  have hvm : s'.vm = s.vm := by rw [hA]; rfl
  have hhp : s'.heap = H := by rw [hA]; exact hT
  have hW0 : s.WarmedH s'.vm := by rw [hvm]; exact State.WarmedH.refl s
  have hat' : ∀ w ∈ vx_atS own ic cls names, w.before args s' = true := fun w hw => vx_ot_at hW0 hvm.symm (hgood w (List.mem_cons_of_mem _ (List.mem_cons_of_mem _ hw))) (hat w hw)
  have hk' : (Cond.classLink own ik cls).before args s' = true := vx_ot_at hW0 hvm.symm (hgood _ List.mem_cons_self) hk
  have hini' : (Cond.initialized cls).before args s' = true := vx_ot_at hW0 hvm.symm (hgood _ (List.mem_cons_of_mem _ List.mem_cons_self)) hini
  have hU' : vx_Zq Bundle.tN "UNASSIGNED_STACK" Bundle.steD A s' s'.heap := by rw [hhp]; exact vx_Zq.moved hW0.alike (hU.kept hS.2.1)
  have hN' : vx_Zq Bundle.tN "SUPPRESSED_SENTINEL" Bundle.listD A s' s'.heap := by rw [hhp]; exact vx_Zq.moved hW0.alike (hN.kept hS.2.1)
  have h : ∀ w ∈ Bundle.ownAtoms own ic cls names, w.before args s' = true := vx_own hat' (vx_isRefq hU'.1) (vx_isRefq hN'.1) hU'.2.word hN'.2.word
  have hown' : s'.vm.findClass own = some m.cls := by rw [hvm]; exact hown
  have hins : (Cond.instantiable cls 6).before args s' = true := h _ (by simp [Bundle.ownAtoms])
  obtain ⟨vm₁, cX, kX, hfX, hkX, -, -, X₁, st1⟩ := Y.newCold hexec (own := own) (C := cls) (index := ik) (n := 6) hown' hk' hins hini'
    (g := F0 m pc ls rest) rfl (by rw [hb]; exact d0) (Nat.le_refl _) (Nat.le_refl _)
  generalize hT1 : (T.setVm vm₁).pushCell { cls := cX, slots := kX.instanceTypes.map defaultValue, vm := .none } = T1 at X₁ st1
  have hcat : (Value.ref T.heap.size).category = 1 := rfl
  have hcellA : T1.heap[T.heap.size]? = some (freshCell cX kX) := by rw [← hT1]; exact State.heap_pushCell_size _ _
  have d3' : decode c.code (pc + 3) = .ok (.dup, 1) := by rw [hb]; exact d3
  have d4' : decode c.code (pc + 4) = .ok (.ldc_w is, 3) := by rw [hb]; exact d4
  have hstr' : vk_R own is text sa s' := vk_R.warm hW0 hstr
  obtain ⟨U, hsteps, hrun, hend, hW, hsame, ce, hce, hO⟩ := X₁.ctorThrowS hexec htr (own := own) (cls := cls) (names := names) (ic := ic) hown' hcls hnames h (fun x hx => nomatch hx) hfX hkX hcellA (by rw [hhp, hT]; exact Nat.le_refl _) (msg := .ref sa) rfl
    (g := { method := m, pc := pc + 7, locals := ls, stack := .ref sa :: .ref T.heap.size :: .ref T.heap.size :: rest, locked := none }) rfl hsize rfl rfl (rest := rest) rfl
    (by rw [hb]; exact d7) (by rw [hb]; exact d10) hout hRframes (by simp only [List.map_cons, List.sum_cons, hcat]; omega) hlocks
  obtain ⟨f1, f2⟩ := vx_frame hsame
  rw [hhp] at f1 f2
  have hWs : s.WarmedH U.vm := State.WarmedH.trans hW0 hW
  have hcl : s.vm.findClass cls = some ce.cls := by
    have h9 := hO.cls
    rw [hvm] at h9
    exact h9
  have hall : s.sameButNew ({ U with vm := s.vm } : State) locs mc ms := by
    subst hA
    obtain ⟨e1, e2⟩ := hsame
    rw [State.setFrames_setFrames] at e1
    have h2 : (T.setVm s.vm).sameButNew ({ U with vm := s.vm } : State) [] (0 + 1) (0 + 6) := ⟨e1, e2⟩
    have h3 := X.same.trans h2
    rw [List.append_nil] at h3
    exact h3.mono hc hs
  refine ⟨U, ?_, .threw T.heap.size, hrun, hend, Or.inr ⟨T.heap.size, rfl, cls, ce, locs, hx U hWs.alike f1 (fun q hq => f2 q hq (fun z hz => nomatch hz)), hce, hO.vm, hcl, hWs, hall, hf⟩⟩
  refine st1 _ ?_
  show Steps p.tables e below (T1.setTop { method := m, pc := pc + 3, locals := ls, stack := .ref T.heap.size :: rest, locked := none }) _
  jvm_step X₁.here [X₁.here.top, hexec, d3', Value.category]
  exact X₁.ldcStringW hexec (own := own) (text := text) (index := is) (a := sa) hown' hstr'.1 hstr'.2
    (g := { method := m, pc := pc + 4, locals := ls, stack := .ref T.heap.size :: .ref T.heap.size :: rest, locked := none }) rfl d4' _ hsteps
end Ends
section Bodies
variable {l : Launch}
theorem vx_ofW {y : MethodName} {ws ws' : List Cond} {rm : Room} {Pc : Array Value → State → Prop} {Qc : Array Value → State → Outcome → State → Prop} {XC : String → State → State → Prop} {mc ms : Nat} {free : Addr → Prop} {cc : ByteArray} {maxL : Nat} {ret : Option FieldType}
    (hy : plainName y.cls = true) (hw : ws = Cond.code y cc maxL ret :: ws')
    (body : ∀ p e s m args below meth c s₁, BodyLoose p l y (headSpec ws rm) cc maxL ret e s m args below meth c s₁ → c.maxLocals = maxL → (∀ x ∈ c.exceptionTable.toList, False) → Pc args s →
      W p l e (headSpec ws rm).room s m args below meth c s.heap [] 0 0 (vx_MQ below Qc XC args s mc ms free) (entryFrame m args maxL)) : vx_Met l y ws rm Pc Qc XC mc ms free := by
  refine MetFree.of_bodyS (code := cc) (maxLocals := maxL) (ret := ret) hy ?_ ?_
  · intro args s m h hn
    obtain ⟨meth, c, h1, h2, h3, h4, h5, h6, -, -⟩ := Cond.code_spec hn (atoms_spec (ws := ws) h _ (by rw [hw]; exact List.mem_cons_self))
    exact ⟨meth, c, h1, h2, h3, h4, h5, h6⟩
  · intro p e s m args below meth c s₁ B hml hP _
    have hh0 : s₁.heap = s.heap := by rw [B.state]; rfl
    have ht : ∀ x ∈ c.exceptionTable.toList, False := by
      obtain ⟨meth9, c9, h1, h2, -, -, -, -, h7, -⟩ := Cond.code_spec B.named (atoms_spec (ws := ws) B.pre _ (by rw [hw]; exact List.mem_cons_self))
      cases Option.some.inj (h1.symm.trans B.method)
      cases Option.some.inj (h2.symm.trans (Stand.of_body B).code)
      intro x hx
      rw [Array.isEmpty_iff.mp h7] at hx
      cases hx
    obtain ⟨t, a1, o, b1, b2, b3⟩ := body p e s m args below meth c s₁ B hml ht hP s₁ hh0 (Stand.of_body B)
    exact ⟨t, o, a1, b1, b2, b3⟩
/-- the table of a body with handlers -/
theorem vx_table {p : Program} {x y : MethodName} {S : Spec} {cc bytes : ByteArray} {maxL maxL' : Nat} {ret ret' : Option FieldType} {e : Env} {s s₁ : State} {m : MethodId} {args : Array Value} {below : List Frame} {meth : Method} {c : Code} {hh : List (Nat × Nat × Nat × Nat)}
    (B : BodyLoose p l y S cc maxL ret e s m args below meth c s₁) (h : (Cond.codeWith y bytes maxL' ret' hh).before args s = true) : c.exceptionTable.toList = tableOf hh := by
  obtain ⟨m9, meth9, c9, hn9, h1, h2, -, -, h6, -⟩ := Cond.codeWith_spec h
  cases Option.some.inj (hn9.symm.trans B.named)
  cases Option.some.inj (h1.symm.trans B.method)
  cases Option.some.inj (h2.symm.trans (Stand.of_body B).code)
  rw [← h6, table_eq]
end Bodies
end VXA
/-! ===== END ===== -/
/-! ===== BEGIN a static call of a method with an exception table ===== -/
section VXS
variable {p : Program} {l : Launch} {e : Env} {R : Room} {s : State} {m : MethodId} {args : Array Value} {below : List Frame} {meth : Method} {c : Code} {T : State} {H : Heap} {locs : List Loc} {cells slots : Nat}
abbrev vx_CSW (R : Room) (s : State) (args : Array Value) (own : String) (index : Nat) (y : MethodName) (bytes : ByteArray) (maxL : Nat) (ret : Option FieldType) (hh : List (Nat × Nat × Nat × Nat)) (ws : List Cond) (rm : Room) (mc ms n : Nat) : Prop :=
  (rm.cells = mc ∧ rm.slots = ms ∧ rm.frames + 1 ≤ R.frames ∧ 8 + (maxL + 11) + rm.locals ≤ R.locals ∧ (∀ w ∈ ws, ∀ (a' : Array Value) (U : State), s.WarmedH U.vm → w.before a' U = true) ∧ Cond.codeWith y bytes maxL ret hh ∈ ws) ∧
  (Cond.codeWith y bytes maxL ret hh).before args s = true ∧ (Cond.initialized y.cls).before args s = true ∧ (y.cls ≠ "java/lang/invoke/MethodHandle" ∧ y.cls ≠ "java/lang/invoke/VarHandle") ∧
  (∀ sig, parseMethodDescriptor y.desc = some sig → n = sig.parameters.length) ∧ (Cond.methodLink own index y).before args s = true ∧ (Cond.static y).before args s = true
theorem vx_cwSW {own : String} {index maxL mc ms : Nat} {y : MethodName} {bytes : ByteArray} {ret : Option FieldType} {hh : List (Nat × Nat × Nat × Nat)} {Ts ws ws' : List Cond} {rm : Room} (n : Nat) (ht : ∀ w ∈ Ts, w.before args s = true) (hT : GoodIn Ts (va_wsS own index y ws)) (hw : ws = Cond.codeWith y bytes maxL ret hh :: ws') (hrc : rm.cells = mc) (hrs : rm.slots = ms)
    (hd : y.cls ≠ "java/lang/invoke/MethodHandle" ∧ y.cls ≠ "java/lang/invoke/VarHandle" ∧ (parseMethodDescriptor y.desc).map (fun d => d.parameters.length) = some n) (hR : rm.frames + 1 ≤ R.frames ∧ 8 + (maxL + 11) + rm.locals ≤ R.locals) :
    vx_CSW R s args own index y bytes maxL ret hh ws rm mc ms n := by
  have ok : ∀ w ∈ va_wsS own index y ws, w.before args s = true := fun w h => ht w (hT w h).1
  have hG : GoodIn Ts ws := fun w h => hT w (by unfold va_wsS; exact List.mem_append_right _ h)
  have hc : Cond.codeWith y bytes maxL ret hh ∈ ws := by rw [hw]; exact List.mem_cons_self
  refine ⟨⟨hrc, hrs, hR.1, hR.2, pay_in ht hG, hc⟩, ht _ (hG _ hc).1, ok _ (by simp [va_wsS]), ⟨hd.1, hd.2.1⟩, fun sig h => ?_, ok _ (by simp [va_wsS]), ok _ (by simp [va_wsS])⟩
  have h2 := hd.2.2
  rw [h] at h2
  exact (Option.some.inj h2).symm
theorem vx_callSW (X : Stand p l e R s m args below meth c T locs cells slots) (hexec : p.tables.exec = Jvm.exec) {own : String} {index : Nat} {y : MethodName} {bytes : ByteArray} {maxL : Nat} {ret : Option FieldType} {hh : List (Nat × Nat × Nat × Nat)}
    (hown : s.vm.findClass own = some m.cls) (hlink : (Cond.methodLink own index y).before args s = true) (hstat : (Cond.static y).before args s = true) (hinit : (Cond.initialized y.cls).before args s = true)
    (hcode : (Cond.codeWith y bytes maxL ret hh).before args s = true) (hy : y.cls ≠ "java/lang/invoke/MethodHandle" ∧ y.cls ≠ "java/lang/invoke/VarHandle")
    {W9 : Nat} {Pre : Pt → Array Value → Prop} {Post : Pt → Array Value → Option Value → Pt → Prop} (hK : Back l R p e below s args y 3 W9 Pre Post)
    {g : JFrame} (hg : g.method = m) (hsize : g.locals.size = c.maxLocals) {argsL rest : List Value} (hlen : ∀ sig, parseMethodDescriptor y.desc = some sig → argsL.length = sig.parameters.length)
    (hstack : g.stack = argsL.reverse ++ rest) (hW : 2 * g.monitorRoom + (rest.map fun v => v.category).sum ≤ W9) (hdg : decode c.code g.pc = .ok (.invokestatic index, 3))
    (hpre : ∀ vm₁, s.WarmedH vm₁ → Pre ⟨T.setVm vm₁, locs, cells, slots⟩ argsL.toArray) :
    ∃ (v : Option Value) (vm₁ : Vm) (B : Pt), s.WarmedH vm₁ ∧ Stand p l e R s m args below meth c B.U B.locs B.cells B.slots ∧ Post ⟨T.setVm vm₁, locs, cells, slots⟩ argsL.toArray v B ∧
      ∀ target, Steps p.tables e below (B.U.setTop { g with pc := g.pc + 3, stack := v.toList ++ rest }) target → Steps p.tables e below (T.setTop g) target := by
  obtain ⟨mk, methM, cM, hnamed, hmethM, -, -, -, -, -, -, hsigM⟩ := Cond.codeWith_spec hcode
  have hstatic : methM.isStatic = true := Cond.static_spec hnamed hmethM hstat
  obtain ⟨kP, hkP, -⟩ := className_of_methodNamed hnamed
  have hinitP : kP.init = .initialized := Cond.initialized_spec (findClass_of_methodNamed hnamed) hkP hinit
  obtain ⟨vm₁, X₁, hstep₁⟩ := X.invokestatic hexec hown hlink hnamed hmethM hstatic hkP hinitP hy (g := g) hg (argsL := argsL) (rest := rest) (hlen _ hsigM) hstack hdg
  obtain ⟨v, B, X', hpost, hsteps⟩ := hK m meth c ⟨T.setVm vm₁, locs, cells, slots⟩ { g with stack := rest } (.invokestatic index) mk argsL.toArray X₁ hg hsize hdg hW (X₁.named hnamed) (hpre vm₁ X₁.warmed)
  exact ⟨v, vm₁, B, X₁.warmed, X', hpost, fun target h => hstep₁ _ fun acts => by rw [doInvoke_state]; exact hsteps.trans h⟩
theorem vx_runSW {y : MethodName} {bytes cc : ByteArray} {maxL nL mc ms n index : Nat} {ret : Option FieldType} {hh : List (Nat × Nat × Nat × Nat)} {ws : List Cond} {rm : Room} {Pc : Array Value → State → Prop} {Qc : Array Value → State → Outcome → State → Prop} {free : Addr → Prop} {Ts : List Cond} {own : String} {As rest : List Value} {g : JFrame}
    (S : CallFix p m c cc nL s args Ts own) (hM : Met l y ws rm Pc Qc mc ms free) (cw : vx_CSW R s args own index y bytes maxL ret hh ws rm mc ms n) (hp : PreS s H Pc As)
    (hg : g.method = m) (hn : As.length = n) (hsize : g.locals.size = nL) (hstack : g.stack = As.reverse ++ rest) (hW : 2 * g.monitorRoom + (rest.map fun v => v.category).sum ≤ 8) (hdg : decode cc g.pc = .ok (.invokestatic index, 3)) (hf : cells + mc ≤ R.cells ∧ slots + ms ≤ R.slots) :
    va_Run p l e R s m args below meth c H locs cells slots mc ms g rest (Qc As.toArray) (free) := by
  obtain ⟨⟨hrc, hrs, hfr, hlo, hws, hcw⟩, hcode, hini, hy, hlen, hl, hstt⟩ := cw
  have hK : Back l R p e below s args y 3 8 (PreOf R mc ms Pc) (PostOf Qc mc ms free) := va_backW (hh := hh) (bytes := bytes) (maxL := maxL) (ret := ret) hM hp.1 hrc hrs hfr hlo hws hcw (fun a' U hW => word_at hW (Or.inl (by first | rfl | simp [Cond.onTables, Cond.keeps, Cond.steady])) hini)
  obtain ⟨hx, hb, hml, ho, -⟩ := S
  intro T hT X
  obtain ⟨v, vm₁, ⟨U', l2, c2, s2⟩, hW₁, X', ⟨g', mk, t, L, e1, e2, hq, h1, hL, h2, h3⟩, st⟩ := vx_callSW X hx (hh := hh) (bytes := bytes) (maxL := maxL) (ret := ret) ho hl hstt hini hcode hy hK hg (hsize.trans hml.symm) (argsL := As) (rest := rest) (fun sig h => hn.trans (hlen sig h)) hstack hW (by rw [hb]; exact hdg)
    (fun vm₁ hW₁ => ⟨hf.1, hf.2, hp.2 (T.setVm vm₁) hT hW₁⟩)
  dsimp only [Pt.U, Pt.locs, Pt.cells, Pt.slots] at X' e1 e2 h1 h2 h3 st
  subst h1; subst h2; subst h3
  exact ⟨v, (T.setVm vm₁).calling g' mk As.toArray, t, U', L, hT, X', hL, e1, e2, hq, st⟩
/-- not caught here, past rows that name other classes: it goes on to the caller -/
theorem vx_outP {p : Program} {l : Launch} {e : Env} {R : Room} {s : State} {m : MethodId} {args : Array Value} {below : List Frame} {meth : Method} {c : Code} {H : Heap} {locs : List Loc} {cells slots : Nat} {free : Addr → Prop} {ls : Array Slot} {rest : List Value} {Qc : Array Value → State → Outcome → State → Prop} {XC : String → State → State → Prop}
    {pc : Nat} {own E : String} {ce : Cell} {q : Addr} {mc ms : Nat} (hown : s.vm.findClass own = some m.cls) (hlocks : meth.locks = false)
    (hpass : ∀ z ∈ c.exceptionTable.toList, covers z pc = false ∨ (z.catchType ≠ 0 ∧ ∃ nm : String, (Cond.classLink own z.catchType nm).before args s = true ∧ va_Nc E nm s)) (hcell : H[q]? = some ce) (hv : ce.vm = .none) (hcl : s.vm.findClass E = some ce.cls)
    (hx : ∀ t : State, t.heap = H → s.vm.Alike t.vm → XC E s t) (hf : ∀ z ∈ locs, free z.base) (hc : cells ≤ mc) (hs : slots ≤ ms) :
    vx_W p l e R s m args below meth c H locs cells slots (vx_MQ below Qc XC args s mc ms free) (F0 m pc ls rest) q := by
  intro T hT X
  have hpl : e.platform.magicAccessors = ({} : Platform).magicAccessors := by rw [X.admits.platform]
  obtain ⟨vm', hW', X', st⟩ := X.outThrough hlocks q (g := F0 m pc ls rest) rfl rfl rfl (cell := ce) (by rw [hT]; exact hcell) (by rw [hv]; rfl)
    (by obtain ⟨k9, h9, -⟩ := Vm.findClass_spec hcl; exact ⟨k9, h9⟩) (fun z hz => by
      rcases hpass z hz with h | ⟨hz0, nm, hl1, hn1⟩
      · exact Or.inl h
      · obtain ⟨c6, hc6, hcl6⟩ := Cond.classLink_spec hown hl1 e.platform hpl
        obtain ⟨a8, b8, h1, h2, h3⟩ := hn1
        cases Option.some.inj (h1.symm.trans hcl)
        cases Option.some.inj (h2.symm.trans hc6)
        exact Or.inr ⟨hz0, _, hcl6, h3⟩)
  obtain ⟨g₀, hfr⟩ := X'.frames_eq
  have hcell9 : ((T.setVm vm').setFrames (.throwing q :: below)).heap[q]? = some ce := by
    show T.heap[q]? = some ce
    rw [hT]; exact hcell
  have hend : Ended ((T.setVm vm').setFrames (.throwing q :: below)) below (.threw q) := State.frames_setFrames _ (State.cur_lt_of_frames hfr)
  refine ⟨(T.setVm vm').setFrames (.throwing q :: below), ?_, .threw q, X'.here.running, hend, Or.inr ⟨q, rfl, E, ce, locs, hx _ hT (X'.ends _).1.alike, hcell9, hv, hcl, (X'.ends _).1, (X'.ends _).2.mono hc hs, hf⟩⟩
  rw [X.pushThrowing_eq]
  exact st
/-- a thing of a world lies in the heap -/
theorem vx_lt {D : va_G} {cl : List vw_C} {ws : va_W} {H1 : Heap} (h : va_P D cl ws H1) {k : Nat} {q : Nat × va_E} (hk : ws[k]? = some q) : q.1 < H1.size := (h k q hk).lt
end VXS
/-! ===== END ===== -/
/-! ===== BEGIN methods with a table of their own: called by a name, returning or throwing ===== -/
section VXH
/-! vx_backW, vx_callVX, vx_callSX, vx_callVW, vx_runVW, vx_runVX, vx_runSX, vx_ofWH follow the same proofs as their sisters above (Free/Laws.lean, Shelf42/LK1.lean); vx_outP calls Shelf42/NT130.lean (outThrough). -/
section
variable {l : Launch} {R : Room} {p : Program} {e : Env} {below : List Frame} {s : State} {sargs : Array Value} {y : MethodName} {len W9 : Nat}
theorem vx_backW {ws : List Cond} {rm : Room} {Pc : Array Value → State → Prop} {Qc : Array Value → State → Outcome → State → Prop} {XC : String → State → State → Prop} {mc ms : Nat} {free : Addr → Prop} {bytes : ByteArray} {maxL : Nat} {ret : Option FieldType} {hh : List (Nat × Nat × Nat × Nat)}
    (hM : vx_Met l y ws rm Pc Qc XC mc ms free) (hblind : FrameBlind Pc) (hrc : rm.cells = mc) (hrs : rm.slots = ms)
    (hframes : rm.frames + 1 ≤ R.frames) (hlocals : W9 + (maxL + 11) + rm.locals ≤ R.locals)
    (hws : ∀ w ∈ ws, ∀ a' U, s.WarmedH U.vm → w.before a' U = true) (hcode : Cond.codeWith y bytes maxL ret hh ∈ ws) (hinit : ∀ a' U, s.WarmedH U.vm → (Cond.initialized y.cls).before a' U = true) :
    vx_Back l R p e below s sargs y len W9 (PreOf R mc ms Pc) (PostOf Qc mc ms free) (vx_Post XC mc ms free) := by
  intro m meth c A g ig mk a X hg hsize hdg hW hn hp
  have h1 : (headSpec ws rm).pre.before a A.U = true := atoms_intro fun w hw => hws w hw _ _ X.warmed
  have h2 : (Cond.codeWith y bytes maxL ret hh).before a A.U = true := hws _ hcode _ _ X.warmed
  have h3 : (Cond.initialized y.cls).before a A.U = true := hinit _ _ X.warmed
  have h4 : A.cells + (headSpec ws rm).room.cells ≤ R.cells := by rw [show (headSpec ws rm).room.cells = mc from hrc]; exact hp.1
  have h5 : A.slots + (headSpec ws rm).room.slots ≤ R.slots := by rw [show (headSpec ws rm).room.slots = ms from hrs]; exact hp.2.1
  have hPc : Pc a (A.U.calling g mk a) := hblind _ _ _ _ hp.2.2
  obtain ⟨U, Ls, c0, s0⟩ := A
  dsimp only [Pt.U, Pt.locs, Pt.cells, Pt.slots] at h1 h2 h3 h4 h5 X hn hPc ⊢
  obtain ⟨m9, methY, cY, hn9, hmY, hcY, -, hlY, -⟩ := Cond.codeWith_spec h2
  cases Option.some.inj (hn9.symm.trans hn)
  obtain ⟨kY, hkY, -⟩ := className_of_methodNamed hn
  have hinitY : kY.init = .initialized := Cond.initialized_spec (findClass_of_methodNamed hn) hkY h3
  have h : At U g.method c below := by rw [hg]; exact X.here
  have hlocals9 : W9 + (maxL + 11) + (headSpec ws rm).room.locals ≤ R.locals := hlocals
  have happ : (headSpec ws rm).appliesLoose y e.platform (U.calling g mk a) = true :=
    Spec.appliesLoose_calling (g := g) h hdg hn hkY hinitY
      (X.room_calling (g := g) (R' := (headSpec ws rm).room) hsize hmY hcY hframes (by rw [hlY]; omega) h4 h5) h1
  obtain ⟨mid, hmid⟩ := h.above
  have hfr : (U.setTop g).frames = (.java g :: mid) ++ below := by rw [State.frames_setTop' g h.top, hmid]; rfl
  obtain ⟨o, s₂, hsteps, -, hend, hq⟩ := Steps.callFree hM p X.admits X.cas X.clock (acts := []) hfr happ hPc trivial
  have hq' : vx_Q Qc XC mc ms free a (U.calling g mk a) o s₂ := hq
  rw [State.frames_setTop' g h.top] at hend
  obtain ⟨g₀, hg0⟩ := Option.isSome_iff_exists.mp h.top
  obtain ⟨r, hr⟩ := State.topJava?_eq_some.mp hg0
  have hr' : (({ U with heap := s₂.heap, slotsUsed := s₂.slotsUsed } : State).setVm s₂.vm).frames = .java g₀ :: r := hr
  rcases hq' with ⟨hqc, L, hfe, hL⟩ | ⟨q, rfl, E, ce, L, hx, hce, hcv, hcl, hW₂, hsm, hL⟩
  · obtain ⟨⟨v, rfl⟩, hW₂, e2, q2, q3, q4, q5, q6⟩ := id hfe
    have e3 : s₂ = ({ (U.calling g mk a).setFrames s₂.frames with heap := s₂.heap, slotsUsed := s₂.slotsUsed } : State).setVm s₂.vm := by
      have : s₂ = ({ s₂ with vm := (U.calling g mk a).vm } : State).setVm s₂.vm := rfl
      rw [e2] at this
      exact this
    obtain ⟨c₂, i₂, len₂, hc₂, hd₂, hf₂⟩ := hend
    have hW' : U.WarmedH s₂.vm := hW₂
    have hcc : c₂ = c := by
      have h1 : s₂.code? g.method = U.code? g.method := by
        rw [State.code?_eq, State.code?_eq, hW'.alike.method?]
      exact Option.some.inj (hc₂.symm.trans (h1.trans h.code))
    subst hcc
    have hlen : len₂ = len := by rw [hdg] at hd₂; cases hd₂; rfl
    subst hlen
    have hs₂ : s₂ = (({ U with heap := s₂.heap, slotsUsed := s₂.slotsUsed } : State).setVm s₂.vm).setTop { g with pc := g.pc + len₂, stack := v.toList ++ g.stack } := by
      refine e3.trans ?_
      rw [hf₂, State.calling_eq h.top, State.setFrames_setFrames, State.setTop_of_frames _ hr', hr]
      rfl
    have hsame : U.sameButNew ({ U with heap := s₂.heap, slotsUsed := s₂.slotsUsed } : State) L mc ms := by
      refine ⟨?_, q2, q3, q4, q5, q6⟩
      obtain ⟨t, ht, -⟩ := State.frames_cons hr
      show ({ U with heap := s₂.heap, slotsUsed := s₂.slotsUsed } : State) = { U.setFrames U.frames with heap := s₂.heap, slotsUsed := s₂.slotsUsed }
      rw [State.setFrames_self ht]
    subst hg
    refine Or.inl ⟨v, ⟨(({ U with heap := s₂.heap, slotsUsed := s₂.slotsUsed } : State).setVm s₂.vm), Ls ++ L, c0 + mc, s0 + ms⟩,
      ⟨X.admits, X.cas, X.clock, X.frames, X.room, X.hears, X.method, X.code, (X.here.setHeapUsed s₂.heap s₂.slotsUsed).setVm hW'.alike, X.tail, State.WarmedH.trans X.warmed hW', X.limits, X.bytes, X.same.trans (hsame.setVm s.vm)⟩,
      ⟨g, mk, s₂, L, rfl, rfl, hqc, rfl, hL, rfl, rfl⟩, ?_⟩
    show Steps p.tables e below _ ((({ U with heap := s₂.heap, slotsUsed := s₂.slotsUsed } : State).setVm s₂.vm).setTop { g with pc := g.pc + len₂, stack := v.toList ++ g.stack })
    rw [← hs₂]
    exact hsteps
  · obtain ⟨e2, q2, q3, q4, q5, q6⟩ := id hsm
    have e3 : s₂ = ({ (U.calling g mk a).setFrames s₂.frames with heap := s₂.heap, slotsUsed := s₂.slotsUsed } : State).setVm s₂.vm := by
      have : s₂ = ({ s₂ with vm := (U.calling g mk a).vm } : State).setVm s₂.vm := rfl
      rw [e2] at this
      exact this
    have hf₂ : s₂.frames = .throwing q :: .java g :: U.frames.tail := hend
    have hW' : U.WarmedH s₂.vm := hW₂
    have hs₂ : s₂ = ((({ U with heap := s₂.heap, slotsUsed := s₂.slotsUsed } : State).setVm s₂.vm).setTop g).pushFrame (.throwing q) := by
      refine e3.trans ?_
      rw [hf₂, State.calling_eq h.top, State.setFrames_setFrames, State.pushFrame, State.frames_setTop _ hr', State.setTop_of_frames _ hr', State.setFrames_setFrames, hr]
      rfl
    have hsame : U.sameButNew ({ U with heap := s₂.heap, slotsUsed := s₂.slotsUsed } : State) L mc ms := by
      refine ⟨?_, q2, q3, q4, q5, q6⟩
      obtain ⟨t, ht, -⟩ := State.frames_cons hr
      show ({ U with heap := s₂.heap, slotsUsed := s₂.slotsUsed } : State) = { U.setFrames U.frames with heap := s₂.heap, slotsUsed := s₂.slotsUsed }
      rw [State.setFrames_self ht]
    subst hg
    refine Or.inr ⟨q, ⟨(({ U with heap := s₂.heap, slotsUsed := s₂.slotsUsed } : State).setVm s₂.vm), Ls ++ L, c0 + mc, s0 + ms⟩,
      ⟨X.admits, X.cas, X.clock, X.frames, X.room, X.hears, X.method, X.code, (X.here.setHeapUsed s₂.heap s₂.slotsUsed).setVm hW'.alike, X.tail, State.WarmedH.trans X.warmed hW', X.limits, X.bytes, X.same.trans (hsame.setVm s.vm)⟩,
      ⟨g, mk, s₂, L, E, ce, rfl, rfl, hx, hce, hcv, hcl, rfl, hL, rfl, rfl⟩, ?_⟩
    show Steps p.tables e below _ (((({ U with heap := s₂.heap, slotsUsed := s₂.slotsUsed } : State).setVm s₂.vm).setTop g).pushFrame (.throwing q))
    rw [← hs₂]
    exact hsteps
end
variable {p : Program} {l : Launch} {e : Env} {R : Room} {s : State} {m : MethodId} {args : Array Value} {below : List Frame} {meth : Method} {c : Code} {T : State} {H : Heap} {locs : List Loc} {cells slots : Nat}
theorem vx_callVX (X : Stand p l e R s m args below meth c T locs cells slots) (hexec : p.tables.exec = Jvm.exec) {own C : String} {index : Nat} {y : MethodName} {bytes : ByteArray} {maxL : Nat} {ret : Option FieldType} {hh : List (Nat × Nat × Nat × Nat)}
    (hown : s.vm.findClass own = some m.cls) (hlink : (Cond.methodLink own index y).before args s = true) (hinst : (Cond.instanceMethod y).before args s = true) (hsel : (Cond.selects C y y).before args s = true)
    (hcode : (Cond.codeWith y bytes maxL ret hh).before args s = true) (hy : y.cls ≠ "java/lang/invoke/MethodHandle" ∧ y.cls ≠ "java/lang/invoke/VarHandle")
    {W9 : Nat} {Pre : Pt → Array Value → Prop} {Post : Pt → Array Value → Option Value → Pt → Prop} {PostX : Pt → Array Value → Addr → Pt → Prop} (hK : vx_Back l R p e below s args y 3 W9 Pre Post PostX)
    {b : Addr} {cellB : Cell} (hcell : T.heap[b]? = some cellB) (hobj : cellB.vm.isStatics = false) (hcls : s.vm.findClass C = some cellB.cls)
    {g : JFrame} (hg : g.method = m) (hsize : g.locals.size = c.maxLocals) {argsL rest : List Value} (hlen : ∀ sig, parseMethodDescriptor y.desc = some sig → argsL.length = sig.parameters.length)
    (hstack : g.stack = argsL.reverse ++ .ref b :: rest) (hW : 2 * g.monitorRoom + (rest.map fun v => v.category).sum ≤ W9) (hdg : decode c.code g.pc = .ok (.invokevirtual index, 3))
    (hpre : ∀ vm₁, s.WarmedH vm₁ → Pre ⟨T.setVm vm₁, locs, cells, slots⟩ (Value.ref b :: argsL).toArray) :
    (∃ (v : Option Value) (vm₁ : Vm) (B : Pt), s.WarmedH vm₁ ∧ Stand p l e R s m args below meth c B.U B.locs B.cells B.slots ∧ Post ⟨T.setVm vm₁, locs, cells, slots⟩ (Value.ref b :: argsL).toArray v B ∧
      ∀ target, Steps p.tables e below (B.U.setTop { g with pc := g.pc + 3, stack := v.toList ++ rest }) target → Steps p.tables e below (T.setTop g) target) ∨
    (∃ (q : Addr) (vm₁ : Vm) (B : Pt), s.WarmedH vm₁ ∧ Stand p l e R s m args below meth c B.U B.locs B.cells B.slots ∧ PostX ⟨T.setVm vm₁, locs, cells, slots⟩ (Value.ref b :: argsL).toArray q B ∧
      Steps p.tables e below (T.setTop g) ((B.U.setTop { g with stack := rest }).pushFrame (.throwing q))) := by
  obtain ⟨mk, methM, hnamed, hmethM, hstM, habM⟩ := Cond.instanceMethod_spec hinst
  obtain ⟨m8, methM', cM, hn8, hmethM', -, -, -, -, -, -, hsigM⟩ := Cond.codeWith_spec hcode
  cases Option.some.inj (hn8.symm.trans hnamed)
  cases hmethM.symm.trans hmethM'
  obtain ⟨c2, r2, m2, q1, q2, q3, q4, kP, hkP, hkPi⟩ := Cond.selects_spec hsel
  cases hcls.symm.trans q1
  cases (State.methodFound?_of_named hnamed hy).symm.trans q2
  cases hnamed.symm.trans q3
  have hselP : selectMethod e.platform s.vm cellB.cls mk = .method mk := by rw [Launch.admits_selectMethod X.admits]; exact q4
  obtain ⟨vm₁, X₁, hstep₁⟩ := X.invokevirtual hexec hown hlink hnamed hmethM hstM hkP hkPi hy (a := b) (cell := cellB) hcell
    (fun z h => by rw [h] at hobj; cases hobj) hselP hmethM habM hkP hkPi (g := g) hg (argsL := argsL) (rest := rest) (hlen _ hsigM) hstack hdg
  rcases hK m meth c ⟨T.setVm vm₁, locs, cells, slots⟩ { g with stack := rest } (.invokevirtual index) mk (Value.ref b :: argsL).toArray X₁ hg hsize hdg hW (X₁.named hnamed) (hpre vm₁ X₁.warmed) with ⟨v, B, X', hpost, hsteps⟩ | ⟨q, B, X', hpost, hsteps⟩
  · exact Or.inl ⟨v, vm₁, B, X₁.warmed, X', hpost, fun target h => hstep₁ _ fun acts => by rw [doInvoke_state]; exact hsteps.trans h⟩
  · exact Or.inr ⟨q, vm₁, B, X₁.warmed, X', hpost, hstep₁ _ fun acts => by rw [doInvoke_state]; exact hsteps⟩
theorem vx_callSX (X : Stand p l e R s m args below meth c T locs cells slots) (hexec : p.tables.exec = Jvm.exec) {own : String} {index : Nat} {y : MethodName} {bytes : ByteArray} {maxL : Nat} {ret : Option FieldType} {hh : List (Nat × Nat × Nat × Nat)}
    (hown : s.vm.findClass own = some m.cls) (hlink : (Cond.methodLink own index y).before args s = true) (hstat : (Cond.static y).before args s = true) (hinit : (Cond.initialized y.cls).before args s = true)
    (hcode : (Cond.codeWith y bytes maxL ret hh).before args s = true) (hy : y.cls ≠ "java/lang/invoke/MethodHandle" ∧ y.cls ≠ "java/lang/invoke/VarHandle")
    {W9 : Nat} {Pre : Pt → Array Value → Prop} {Post : Pt → Array Value → Option Value → Pt → Prop} {PostX : Pt → Array Value → Addr → Pt → Prop} (hK : vx_Back l R p e below s args y 3 W9 Pre Post PostX)
    {g : JFrame} (hg : g.method = m) (hsize : g.locals.size = c.maxLocals) {argsL rest : List Value} (hlen : ∀ sig, parseMethodDescriptor y.desc = some sig → argsL.length = sig.parameters.length)
    (hstack : g.stack = argsL.reverse ++ rest) (hW : 2 * g.monitorRoom + (rest.map fun v => v.category).sum ≤ W9) (hdg : decode c.code g.pc = .ok (.invokestatic index, 3))
    (hpre : ∀ vm₁, s.WarmedH vm₁ → Pre ⟨T.setVm vm₁, locs, cells, slots⟩ argsL.toArray) :
    (∃ (v : Option Value) (vm₁ : Vm) (B : Pt), s.WarmedH vm₁ ∧ Stand p l e R s m args below meth c B.U B.locs B.cells B.slots ∧ Post ⟨T.setVm vm₁, locs, cells, slots⟩ argsL.toArray v B ∧
      ∀ target, Steps p.tables e below (B.U.setTop { g with pc := g.pc + 3, stack := v.toList ++ rest }) target → Steps p.tables e below (T.setTop g) target) ∨
    (∃ (q : Addr) (vm₁ : Vm) (B : Pt), s.WarmedH vm₁ ∧ Stand p l e R s m args below meth c B.U B.locs B.cells B.slots ∧ PostX ⟨T.setVm vm₁, locs, cells, slots⟩ argsL.toArray q B ∧
      Steps p.tables e below (T.setTop g) ((B.U.setTop { g with stack := rest }).pushFrame (.throwing q))) := by
  obtain ⟨mk, methM, cM, hnamed, hmethM, -, -, -, -, -, -, hsigM⟩ := Cond.codeWith_spec hcode
  have hstatic : methM.isStatic = true := Cond.static_spec hnamed hmethM hstat
  obtain ⟨kP, hkP, -⟩ := className_of_methodNamed hnamed
  have hinitP : kP.init = .initialized := Cond.initialized_spec (findClass_of_methodNamed hnamed) hkP hinit
  obtain ⟨vm₁, X₁, hstep₁⟩ := X.invokestatic hexec hown hlink hnamed hmethM hstatic hkP hinitP hy (g := g) hg (argsL := argsL) (rest := rest) (hlen _ hsigM) hstack hdg
  rcases hK m meth c ⟨T.setVm vm₁, locs, cells, slots⟩ { g with stack := rest } (.invokestatic index) mk argsL.toArray X₁ hg hsize hdg hW (X₁.named hnamed) (hpre vm₁ X₁.warmed) with ⟨v, B, X', hpost, hsteps⟩ | ⟨q, B, X', hpost, hsteps⟩
  · exact Or.inl ⟨v, vm₁, B, X₁.warmed, X', hpost, fun target h => hstep₁ _ fun acts => by rw [doInvoke_state]; exact hsteps.trans h⟩
  · exact Or.inr ⟨q, vm₁, B, X₁.warmed, X', hpost, hstep₁ _ fun acts => by rw [doInvoke_state]; exact hsteps⟩
theorem vx_callVW (X : Stand p l e R s m args below meth c T locs cells slots) (hexec : p.tables.exec = Jvm.exec) {own C : String} {index : Nat} {y : MethodName} {bytes : ByteArray} {maxL : Nat} {ret : Option FieldType} {hh : List (Nat × Nat × Nat × Nat)}
    (hown : s.vm.findClass own = some m.cls) (hlink : (Cond.methodLink own index y).before args s = true) (hinst : (Cond.instanceMethod y).before args s = true) (hsel : (Cond.selects C y y).before args s = true)
    (hcode : (Cond.codeWith y bytes maxL ret hh).before args s = true) (hy : y.cls ≠ "java/lang/invoke/MethodHandle" ∧ y.cls ≠ "java/lang/invoke/VarHandle")
    {W9 : Nat} {Pre : Pt → Array Value → Prop} {Post : Pt → Array Value → Option Value → Pt → Prop} (hK : Back l R p e below s args y 3 W9 Pre Post)
    {b : Addr} {cellB : Cell} (hcell : T.heap[b]? = some cellB) (hobj : cellB.vm.isStatics = false) (hcls : s.vm.findClass C = some cellB.cls)
    {g : JFrame} (hg : g.method = m) (hsize : g.locals.size = c.maxLocals) {argsL rest : List Value} (hlen : ∀ sig, parseMethodDescriptor y.desc = some sig → argsL.length = sig.parameters.length)
    (hstack : g.stack = argsL.reverse ++ .ref b :: rest) (hW : 2 * g.monitorRoom + (rest.map fun v => v.category).sum ≤ W9) (hdg : decode c.code g.pc = .ok (.invokevirtual index, 3))
    (hpre : ∀ vm₁, s.WarmedH vm₁ → Pre ⟨T.setVm vm₁, locs, cells, slots⟩ (Value.ref b :: argsL).toArray) :
    ∃ (v : Option Value) (vm₁ : Vm) (B : Pt), s.WarmedH vm₁ ∧ Stand p l e R s m args below meth c B.U B.locs B.cells B.slots ∧ Post ⟨T.setVm vm₁, locs, cells, slots⟩ (Value.ref b :: argsL).toArray v B ∧
      ∀ target, Steps p.tables e below (B.U.setTop { g with pc := g.pc + 3, stack := v.toList ++ rest }) target → Steps p.tables e below (T.setTop g) target := by
  obtain ⟨mk, methM, hnamed, hmethM, hstM, habM⟩ := Cond.instanceMethod_spec hinst
  obtain ⟨m8, methM', cM, hn8, hmethM', -, -, -, -, -, -, hsigM⟩ := Cond.codeWith_spec hcode
  cases Option.some.inj (hn8.symm.trans hnamed)
  cases hmethM.symm.trans hmethM'
  obtain ⟨c2, r2, m2, q1, q2, q3, q4, kP, hkP, hkPi⟩ := Cond.selects_spec hsel
  cases hcls.symm.trans q1
  cases (State.methodFound?_of_named hnamed hy).symm.trans q2
  cases hnamed.symm.trans q3
  have hselP : selectMethod e.platform s.vm cellB.cls mk = .method mk := by rw [Launch.admits_selectMethod X.admits]; exact q4
  obtain ⟨vm₁, X₁, hstep₁⟩ := X.invokevirtual hexec hown hlink hnamed hmethM hstM hkP hkPi hy (a := b) (cell := cellB) hcell
    (fun z h => by rw [h] at hobj; cases hobj) hselP hmethM habM hkP hkPi (g := g) hg (argsL := argsL) (rest := rest) (hlen _ hsigM) hstack hdg
  obtain ⟨v, B, X', hpost, hsteps⟩ := hK m meth c ⟨T.setVm vm₁, locs, cells, slots⟩ { g with stack := rest } (.invokevirtual index) mk (Value.ref b :: argsL).toArray X₁ hg hsize hdg hW (X₁.named hnamed) (hpre vm₁ X₁.warmed)
  exact ⟨v, vm₁, B, X₁.warmed, X', hpost, fun target h => hstep₁ _ fun acts => by rw [doInvoke_state]; exact hsteps.trans h⟩
abbrev vx_CVW (R : Room) (s : State) (args : Array Value) (own C : String) (index : Nat) (y : MethodName) (bytes : ByteArray) (maxL : Nat) (ret : Option FieldType) (hh : List (Nat × Nat × Nat × Nat)) (ws : List Cond) (rm : Room) (mc ms n : Nat) : Prop :=
  (rm.cells = mc ∧ rm.slots = ms ∧ rm.frames + 1 ≤ R.frames ∧ 8 + (maxL + 11) + rm.locals ≤ R.locals ∧ (∀ w ∈ ws, ∀ (a' : Array Value) (U : State), s.WarmedH U.vm → w.before a' U = true) ∧ Cond.codeWith y bytes maxL ret hh ∈ ws) ∧
  (Cond.codeWith y bytes maxL ret hh).before args s = true ∧ (Cond.initialized y.cls).before args s = true ∧ (y.cls ≠ "java/lang/invoke/MethodHandle" ∧ y.cls ≠ "java/lang/invoke/VarHandle") ∧
  (∀ sig, parseMethodDescriptor y.desc = some sig → n = sig.parameters.length) ∧ (Cond.methodLink own index y).before args s = true ∧ (Cond.instanceMethod y).before args s = true ∧ (Cond.selects C y y).before args s = true
theorem vx_cwVW {own C : String} {index maxL mc ms : Nat} {y : MethodName} {bytes : ByteArray} {ret : Option FieldType} {hh : List (Nat × Nat × Nat × Nat)} {Ts ws ws' : List Cond} {rm : Room} (n : Nat) (ht : ∀ w ∈ Ts, w.before args s = true) (hT : GoodIn Ts (wsV own index C y ws)) (hw : ws = Cond.codeWith y bytes maxL ret hh :: ws') (hrc : rm.cells = mc) (hrs : rm.slots = ms)
    (hd : y.cls = C ∧ y.cls ≠ "java/lang/invoke/MethodHandle" ∧ y.cls ≠ "java/lang/invoke/VarHandle" ∧ (parseMethodDescriptor y.desc).map (fun d => d.parameters.length) = some n) (hR : rm.frames + 1 ≤ R.frames ∧ 8 + (maxL + 11) + rm.locals ≤ R.locals) :
    vx_CVW R s args own C index y bytes maxL ret hh ws rm mc ms n := by
  obtain ⟨hC, hd⟩ := hd
  subst hC
  have ok : ∀ w ∈ wsV own index y.cls y ws, w.before args s = true := fun w h => ht w (hT w h).1
  have hG : GoodIn Ts ws := fun w h => hT w (by unfold wsV; exact List.mem_append_right _ h)
  have hc : Cond.codeWith y bytes maxL ret hh ∈ ws := by rw [hw]; exact List.mem_cons_self
  refine ⟨⟨hrc, hrs, hR.1, hR.2, pay_in ht hG, hc⟩, ht _ (hG _ hc).1, ok _ (by simp [wsV]), ⟨hd.1, hd.2.1⟩, fun sig h => ?_, ok _ (by simp [wsV]), ok _ (by simp [wsV]), ok _ (by simp [wsV])⟩
  have h2 := hd.2.2
  rw [h] at h2
  exact (Option.some.inj h2).symm
theorem vx_runVW {y : MethodName} {bytes cc : ByteArray} {maxL nL mc ms n index : Nat} {ret : Option FieldType} {hh : List (Nat × Nat × Nat × Nat)} {ws : List Cond} {rm : Room} {Pc : Array Value → State → Prop} {Qc : Array Value → State → Outcome → State → Prop} {free : Addr → Prop} {Ts : List Cond} {own C : String} {b : Addr} {As rest : List Value} {g : JFrame}
    (S : CallFix p m c cc nL s args Ts own) (hM : Met l y ws rm Pc Qc mc ms free) (cw : vx_CVW R s args own C index y bytes maxL ret hh ws rm mc ms n) (hp : PreV s H C b Pc As)
    (hg : g.method = m) (hn : As.length = n) (hsize : g.locals.size = nL) (hstack : g.stack = As.reverse ++ .ref b :: rest) (hW : 2 * g.monitorRoom + (rest.map fun v => v.category).sum ≤ 8) (hdg : decode cc g.pc = .ok (.invokevirtual index, 3)) (hf : cells + mc ≤ R.cells ∧ slots + ms ≤ R.slots) :
    va_Run p l e R s m args below meth c H locs cells slots mc ms g rest (Qc (Value.ref b :: As).toArray) free := by
  obtain ⟨⟨hrc, hrs, hfr, hlo, hws, hcw⟩, hcode, hini, hy, hlen, hl, hin, hse⟩ := cw
  have hK : Back l R p e below s args y 3 8 (PreOf R mc ms Pc) (PostOf Qc mc ms free) := va_backW (hh := hh) (bytes := bytes) (maxL := maxL) (ret := ret) hM hp.1 hrc hrs hfr hlo hws hcw (fun a' U hW => word_at hW (Or.inl (by first | rfl | simp [Cond.onTables, Cond.keeps, Cond.steady])) hini)
  obtain ⟨hx, hb, hml, ho, -⟩ := S
  obtain ⟨-, ⟨cellB, hcB, hoB, hclB⟩, hPc⟩ := hp
  intro T hT X
  obtain ⟨v, vm₁, ⟨U', l2, c2, s2⟩, hW₁, X', ⟨g', mk, t, L, e1, e2, hq, h1, hL, h2, h3⟩, st⟩ := vx_callVW X hx (C := C) (hh := hh) (bytes := bytes) (maxL := maxL) (ret := ret) ho hl hin hse hcode hy hK (by rw [hT]; exact hcB) hoB hclB hg (hsize.trans hml.symm) (argsL := As) (rest := rest) (fun sig h => hn.trans (hlen sig h)) hstack hW (by rw [hb]; exact hdg)
    (fun vm₁ hW₁ => ⟨hf.1, hf.2, hPc (T.setVm vm₁) hT hW₁⟩)
  dsimp only [Pt.U, Pt.locs, Pt.cells, Pt.slots] at X' e1 e2 h1 h2 h3 st
  subst h1; subst h2; subst h3
  exact ⟨v, (T.setVm vm₁).calling g' mk (Value.ref b :: As).toArray, t, U', L, hT, X', hL, e1, e2, hq, st⟩
section
variable {y : MethodName} {bytes cc : ByteArray} {maxL nL mc ms n index : Nat} {ret : Option FieldType} {ws : List Cond} {rm : Room} {Pc : Array Value → State → Prop} {Qc : Array Value → State → Outcome → State → Prop} {XC : String → State → State → Prop} {free : Addr → Prop} {Ts : List Cond} {own C : String} {b : Addr} {As rest : List Value} {g : JFrame}
theorem vx_runVX {hh : List (Nat × Nat × Nat × Nat)} (S : CallFix p m c cc nL s args Ts own) (hM : vx_Met l y ws rm Pc Qc XC mc ms free) (cw : vx_CVW R s args own C index y bytes maxL ret hh ws rm mc ms n) (hp : PreV s H C b Pc As)
    (hg : g.method = m) (hn : As.length = n) (hsize : g.locals.size = nL) (hstack : g.stack = As.reverse ++ .ref b :: rest) (hW : 2 * g.monitorRoom + (rest.map fun v => v.category).sum ≤ 8) (hdg : decode cc g.pc = .ok (.invokevirtual index, 3)) (hf : cells + mc ≤ R.cells ∧ slots + ms ≤ R.slots) :
    vx_Run p l e R s m args below meth c H locs cells slots mc ms g rest (Qc (Value.ref b :: As).toArray) XC free := by
  obtain ⟨⟨hrc, hrs, hfr, hlo, hws, hcw⟩, hcode, hini, hy, hlen, hl, hin, hse⟩ := cw
  have hK : vx_Back l R p e below s args y 3 8 (PreOf R mc ms Pc) (PostOf Qc mc ms free) (vx_Post XC mc ms free) := vx_backW (hh := hh) (bytes := bytes) (maxL := maxL) (ret := ret) hM hp.1 hrc hrs hfr hlo hws hcw (fun a' U hW => word_at hW (Or.inl (by first | rfl | simp [Cond.onTables, Cond.keeps, Cond.steady])) hini)
  obtain ⟨hx, hb, hml, ho, -⟩ := S
  obtain ⟨-, ⟨cellB, hcB, hoB, hclB⟩, hPc⟩ := hp
  intro T hT X
  rcases vx_callVX X hx (C := C) (hh := hh) (bytes := bytes) (maxL := maxL) (ret := ret) ho hl hin hse hcode hy hK (by rw [hT]; exact hcB) hoB hclB hg (hsize.trans hml.symm) (argsL := As) (rest := rest) (fun sig h => hn.trans (hlen sig h)) hstack hW (by rw [hb]; exact hdg)
    (fun vm₁ hW₁ => ⟨hf.1, hf.2, hPc (T.setVm vm₁) hT hW₁⟩) with ⟨v, vm₁, ⟨U', l2, c2, s2⟩, hW₁, X', ⟨g', mk, t, L, e1, e2, hq, h1, hL, h2, h3⟩, st⟩ | ⟨q, vm₁, ⟨U', l2, c2, s2⟩, hW₁, X', ⟨g', mk, t, L, E, ce, e1, e2, hq, hce, hcv, hcl, h1, hL, h2, h3⟩, st⟩
  · dsimp only [Pt.U, Pt.locs, Pt.cells, Pt.slots] at X' e1 e2 h1 h2 h3 st
    subst h1; subst h2; subst h3
    exact Or.inl ⟨v, (T.setVm vm₁).calling g' mk (Value.ref b :: As).toArray, t, U', L, hT, X', hL, e1, e2, hq, st⟩
  · dsimp only [Pt.U, Pt.locs, Pt.cells, Pt.slots] at X' e1 e2 h1 h2 h3 st hcl
    subst h1; subst h2; subst h3
    exact Or.inr ⟨q, (T.setVm vm₁).calling g' mk (Value.ref b :: As).toArray, t, U', L, E, ce, hT, X', hL, e1, e2, hq, hce, hcv, vx_cls hW₁ hcl, st⟩
theorem vx_runSX {hh : List (Nat × Nat × Nat × Nat)} (S : CallFix p m c cc nL s args Ts own) (hM : vx_Met l y ws rm Pc Qc XC mc ms free) (cw : vx_CSW R s args own index y bytes maxL ret hh ws rm mc ms n) (hp : PreS s H Pc As)
    (hg : g.method = m) (hn : As.length = n) (hsize : g.locals.size = nL) (hstack : g.stack = As.reverse ++ rest) (hW : 2 * g.monitorRoom + (rest.map fun v => v.category).sum ≤ 8) (hdg : decode cc g.pc = .ok (.invokestatic index, 3)) (hf : cells + mc ≤ R.cells ∧ slots + ms ≤ R.slots) :
    vx_Run p l e R s m args below meth c H locs cells slots mc ms g rest (Qc As.toArray) XC free := by
  obtain ⟨⟨hrc, hrs, hfr, hlo, hws, hcw⟩, hcode, hini, hy, hlen, hl, hstt⟩ := cw
  have hK : vx_Back l R p e below s args y 3 8 (PreOf R mc ms Pc) (PostOf Qc mc ms free) (vx_Post XC mc ms free) := vx_backW (hh := hh) (bytes := bytes) (maxL := maxL) (ret := ret) hM hp.1 hrc hrs hfr hlo hws hcw (fun a' U hW => word_at hW (Or.inl (by first | rfl | simp [Cond.onTables, Cond.keeps, Cond.steady])) hini)
  obtain ⟨hx, hb, hml, ho, -⟩ := S
  intro T hT X
  rcases vx_callSX X hx (hh := hh) (bytes := bytes) (maxL := maxL) (ret := ret) ho hl hstt hini hcode hy hK hg (hsize.trans hml.symm) (argsL := As) (rest := rest) (fun sig h => hn.trans (hlen sig h)) hstack hW (by rw [hb]; exact hdg)
    (fun vm₁ hW₁ => ⟨hf.1, hf.2, hp.2 (T.setVm vm₁) hT hW₁⟩) with ⟨v, vm₁, ⟨U', l2, c2, s2⟩, hW₁, X', ⟨g', mk, t, L, e1, e2, hq, h1, hL, h2, h3⟩, st⟩ | ⟨q, vm₁, ⟨U', l2, c2, s2⟩, hW₁, X', ⟨g', mk, t, L, E, ce, e1, e2, hq, hce, hcv, hcl, h1, hL, h2, h3⟩, st⟩
  · dsimp only [Pt.U, Pt.locs, Pt.cells, Pt.slots] at X' e1 e2 h1 h2 h3 st
    subst h1; subst h2; subst h3
    exact Or.inl ⟨v, (T.setVm vm₁).calling g' mk As.toArray, t, U', L, hT, X', hL, e1, e2, hq, st⟩
  · dsimp only [Pt.U, Pt.locs, Pt.cells, Pt.slots] at X' e1 e2 h1 h2 h3 st hcl
    subst h1; subst h2; subst h3
    exact Or.inr ⟨q, (T.setVm vm₁).calling g' mk As.toArray, t, U', L, E, ce, hT, X', hL, e1, e2, hq, hce, hcv, vx_cls hW₁ hcl, st⟩
end
end VXH
theorem vx_ofWH {l : Launch} {y : MethodName} {ws ws' : List Cond} {rm : Room} {Pc : Array Value → State → Prop} {Qc : Array Value → State → Outcome → State → Prop} {XC : String → State → State → Prop} {mc ms : Nat} {free : Addr → Prop} {cc : ByteArray} {maxL : Nat} {ret : Option FieldType} {hh : List (Nat × Nat × Nat × Nat)}
    (hy : plainName y.cls = true) (hw : ws = Cond.codeWith y cc maxL ret hh :: ws')
    (body : ∀ p e s m args below meth c s₁, BodyLoose p l y (headSpec ws rm) cc maxL ret e s m args below meth c s₁ → c.maxLocals = maxL → Pc args s →
      W p l e (headSpec ws rm).room s m args below meth c s.heap [] 0 0 (vx_MQ below Qc XC args s mc ms free) (entryFrame m args maxL)) : vx_Met l y ws rm Pc Qc XC mc ms free := by
  refine MetFree.of_bodyS (code := cc) (maxLocals := maxL) (ret := ret) hy ?_ ?_
  · intro args s m h hn
    obtain ⟨m9, meth, c, hn9, h1, h2, h3, h4, -, h5, h6, -⟩ := Cond.codeWith_spec (atoms_spec (ws := ws) h _ (by rw [hw]; exact List.mem_cons_self))
    cases hn.symm.trans hn9
    exact ⟨meth, c, h1, h2, h3, h4, h5, h6⟩
  · intro p e s m args below meth c s₁ B hml hP _
    have hh0 : s₁.heap = s.heap := by rw [B.state]; rfl
    obtain ⟨t, a1, o, b1, b2, b3⟩ := body p e s m args below meth c s₁ B hml hP s₁ hh0 (Stand.of_body B)
    exact ⟨t, o, a1, b1, b2, b3⟩
/-! ===== END ===== -/
end
section
def r_Cn : String := "SiteswapStudio$Counter"
def f_Cn : u_T := fun k => match k with
  | _ => ("SiteswapStudio$Counter", "rows", "[I", true)
def t_Cn : Nat → FieldType := fun k => match k with
  | _ => .array .int
theorem n_Cn : ∀ a, a < 1 → ∀ b, b < 1 → a ≠ b → (f_Cn a).2.1 ≠ (f_Cn b).2.1 := by decide +kernel
theorem tk_Cn : ∀ k, k < 1 → parseFieldDescriptor (f_Cn k).2.2.1 = some (t_Cn k) := by decide +kernel
theorem iw_Cn : ∀ w ∈ u_ws r_Cn f_Cn 1, w ∈ lw_tbl ∧ goodWord w = true := by decide +kernel
def r_Cy : String := "SiteswapStudio$CycleSearch"
def f_Cy : u_T := fun k => match k with
  | 0 => ("SiteswapStudio$CycleSearch", "candidate", "LSiteswapStudio$Draft;", true)
  | _ => ("SiteswapStudio$CycleSearch", "toPass", "I", false)
def t_Cy : Nat → FieldType := fun k => match k with
  | 0 => .object "SiteswapStudio$Draft"
  | _ => .int
theorem n_Cy : ∀ a, a < 2 → ∀ b, b < 2 → a ≠ b → (f_Cy a).2.1 ≠ (f_Cy b).2.1 := by decide +kernel
theorem tk_Cy : ∀ k, k < 2 → parseFieldDescriptor (f_Cy k).2.2.1 = some (t_Cy k) := by decide +kernel
theorem iw_Cy : ∀ w ∈ u_ws r_Cy f_Cy 2, w ∈ lw_tbl ∧ goodWord w = true := by decide +kernel
def r_Dr : String := "SiteswapStudio$Draft"
def f_Dr : u_T := fun k => match k with
  | 0 => ("SiteswapStudio$Draft", "heights", "[I", true)
  | 1 => ("SiteswapStudio$Draft", "counts", "[I", true)
  | 2 => ("SiteswapStudio$Draft", "crossings", "[I", true)
  | 3 => ("SiteswapStudio$Draft", "scratch", "[I", true)
  | 4 => ("SiteswapStudio$Draft", "mode", "I", false)
  | _ => ("SiteswapStudio$Draft", "period", "I", false)
def t_Dr : Nat → FieldType := fun k => match k with
  | 0 => .array .int
  | 1 => .array .int
  | 2 => .array .int
  | 3 => .array .int
  | 4 => .int
  | _ => .int
theorem n_Dr : ∀ a, a < 6 → ∀ b, b < 6 → a ≠ b → (f_Dr a).2.1 ≠ (f_Dr b).2.1 := by decide +kernel
theorem tk_Dr : ∀ k, k < 6 → parseFieldDescriptor (f_Dr k).2.2.1 = some (t_Dr k) := by decide +kernel
theorem iw_Dr : ∀ w ∈ u_ws r_Dr f_Dr 6, w ∈ lw_tbl ∧ goodWord w = true := by decide +kernel
def r_Jo : String := "SiteswapStudio$Joint"
def f_Jo : u_T := fun k => match k with
  | 0 => ("SiteswapStudio$Joint", "distances", "[I", true)
  | 1 => ("SiteswapStudio$Joint", "queue", "[I", true)
  | 2 => ("SiteswapStudio$Joint", "way", "[I", true)
  | 3 => ("SiteswapStudio$Joint", "queued", "I", false)
  | 4 => ("SiteswapStudio$Joint", "length", "I", false)
  | 5 => ("SiteswapStudio$Joint", "made", "Z", false)
  | 6 => ("SiteswapStudio$Joint", "fromSite", "I", false)
  | _ => ("SiteswapStudio$Joint", "toSite", "I", false)
def t_Jo : Nat → FieldType := fun k => match k with
  | 0 => .array .int
  | 1 => .array .int
  | 2 => .array .int
  | 3 => .int
  | 4 => .int
  | 5 => .boolean
  | 6 => .int
  | _ => .int
theorem n_Jo : ∀ a, a < 8 → ∀ b, b < 8 → a ≠ b → (f_Jo a).2.1 ≠ (f_Jo b).2.1 := by decide +kernel
theorem tk_Jo : ∀ k, k < 8 → parseFieldDescriptor (f_Jo k).2.2.1 = some (t_Jo k) := by decide +kernel
theorem iw_Jo : ∀ w ∈ u_ws r_Jo f_Jo 8, w ∈ lw_tbl ∧ goodWord w = true := by decide +kernel
def r_Sg : String := "SiteswapStudio$Stage"
def f_Sg : u_T := fun k => match k with
  | 0 => ("SiteswapStudio$Stage", "shown", "LSiteswapStudio$Draft;", true)
  | 1 => ("SiteswapStudio$Stage", "landsAt", "[I", true)
  | 2 => ("SiteswapStudio$Stage", "landsIn", "[I", true)
  | 3 => ("SiteswapStudio$Stage", "made", "[I", true)
  | 4 => ("SiteswapStudio$Stage", "isOpen", "Z", false)
  | 5 => ("SiteswapStudio$Stage", "now", "I", false)
  | _ => ("SiteswapStudio$Stage", "ballCount", "I", false)
def t_Sg : Nat → FieldType := fun k => match k with
  | 0 => .object "SiteswapStudio$Draft"
  | 1 => .array .int
  | 2 => .array .int
  | 3 => .array .int
  | 4 => .boolean
  | 5 => .int
  | _ => .int
theorem n_Sg : ∀ a, a < 7 → ∀ b, b < 7 → a ≠ b → (f_Sg a).2.1 ≠ (f_Sg b).2.1 := by decide +kernel
theorem tk_Sg : ∀ k, k < 7 → parseFieldDescriptor (f_Sg k).2.2.1 = some (t_Sg k) := by decide +kernel
theorem iw_Sg : ∀ w ∈ u_ws r_Sg f_Sg 7, w ∈ lw_tbl ∧ goodWord w = true := by decide +kernel
def r_St : String := "SiteswapStudio"
def f_St : u_T := fun k => match k with
  | 0 => ("SiteswapStudio", "draft", "LSiteswapStudio$Draft;", true)
  | 1 => ("SiteswapStudio", "shelf", "[LSiteswapStudio$Draft;", true)
  | 2 => ("SiteswapStudio", "joint", "LSiteswapStudio$Joint;", true)
  | 3 => ("SiteswapStudio", "counter", "LSiteswapStudio$Counter;", true)
  | 4 => ("SiteswapStudio", "cycles", "LSiteswapStudio$CycleSearch;", true)
  | _ => ("SiteswapStudio", "stage", "LSiteswapStudio$Stage;", true)
def t_St : Nat → FieldType := fun k => match k with
  | 0 => .object "SiteswapStudio$Draft"
  | 1 => .array (.object "SiteswapStudio$Draft")
  | 2 => .object "SiteswapStudio$Joint"
  | 3 => .object "SiteswapStudio$Counter"
  | 4 => .object "SiteswapStudio$CycleSearch"
  | _ => .object "SiteswapStudio$Stage"
theorem n_St : ∀ a, a < 6 → ∀ b, b < 6 → a ≠ b → (f_St a).2.1 ≠ (f_St b).2.1 := by decide +kernel
theorem tk_St : ∀ k, k < 6 → parseFieldDescriptor (f_St k).2.2.1 = some (t_St k) := by decide +kernel
theorem iw_St : ∀ w ∈ u_ws r_St f_St 6, w ∈ lw_tbl ∧ goodWord w = true := by decide +kernel
def r_Md : String := "SiteswapStudioModel"
def f_Md : u_T := fun k => match k with
  | 0 => ("SiteswapStudioModel", "thrown", "I", false)
  | 1 => ("SiteswapStudioModel", "modes", "[I", true)
  | 2 => ("SiteswapStudioModel", "periods", "[I", true)
  | 3 => ("SiteswapStudioModel", "counts", "[I", true)
  | 4 => ("SiteswapStudioModel", "heights", "[I", true)
  | 5 => ("SiteswapStudioModel", "crosses", "[Z", true)
  | 6 => ("SiteswapStudioModel", "joined", "I", false)
  | 7 => ("SiteswapStudioModel", "joinA", "I", false)
  | 8 => ("SiteswapStudioModel", "joinB", "I", false)
  | 9 => ("SiteswapStudioModel", "way", "[I", true)
  | 10 => ("SiteswapStudioModel", "far", "[I", true)
  | 11 => ("SiteswapStudioModel", "now", "I", false)
  | 12 => ("SiteswapStudioModel", "balls", "I", false)
  | 13 => ("SiteswapStudioModel", "leftThrows", "I", false)
  | 14 => ("SiteswapStudioModel", "rightThrows", "I", false)
  | 15 => ("SiteswapStudioModel", "lands", "[I", true)
  | 16 => ("SiteswapStudioModel", "hands", "[I", true)
  | 17 => ("SiteswapStudioModel", "ways", "[I", true)
  | 18 => ("SiteswapStudioModel", "more", "[I", true)
  | 19 => ("SiteswapStudioModel", "row", "[I", true)
  | _ => ("SiteswapStudioModel", "turned", "[I", true)
def t_Md : Nat → FieldType := fun k => match k with
  | 0 => .int
  | 1 => .array .int
  | 2 => .array .int
  | 3 => .array .int
  | 4 => .array .int
  | 5 => .array .boolean
  | 6 => .int
  | 7 => .int
  | 8 => .int
  | 9 => .array .int
  | 10 => .array .int
  | 11 => .int
  | 12 => .int
  | 13 => .int
  | 14 => .int
  | 15 => .array .int
  | 16 => .array .int
  | 17 => .array .int
  | 18 => .array .int
  | 19 => .array .int
  | _ => .array .int
theorem n_Md : ∀ a, a < 21 → ∀ b, b < 21 → a ≠ b → (f_Md a).2.1 ≠ (f_Md b).2.1 := by decide +kernel
theorem tk_Md : ∀ k, k < 21 → parseFieldDescriptor (f_Md k).2.2.1 = some (t_Md k) := by decide +kernel
theorem iw_Md : ∀ w ∈ u_ws r_Md f_Md 21, w ∈ lw_tbl ∧ goodWord w = true := by decide +kernel
def r_Lw : String := "SiteswapStudioLaw"
def r_Ar : String := "java/util/Arrays"
def r_In : String := "java/lang/Integer"
abbrev vwCl : List vw_C := [(r_Cn, f_Cn, 1), (r_Cy, f_Cy, 2), (r_Dr, f_Dr, 6), (r_Jo, f_Jo, 8), (r_Sg, f_Sg, 7), (r_St, f_St, 6), (r_Md, f_Md, 21)]
abbrev b_St_init : ByteArray := prog_1_method_1_code
def y_St_init : MethodName := ⟨r_St, "<init>", "()V"⟩
abbrev b_Dr_init : ByteArray := prog_4_method_1_code
def y_Dr_init : MethodName := ⟨r_Dr, "<init>", "()V"⟩
abbrev b_Jo_init : ByteArray := prog_5_method_1_code
def y_Jo_init : MethodName := ⟨r_Jo, "<init>", "()V"⟩
abbrev b_Cn_init : ByteArray := prog_2_method_1_code
def y_Cn_init : MethodName := ⟨r_Cn, "<init>", "()V"⟩
abbrev b_Cy_init : ByteArray := prog_3_method_1_code
def y_Cy_init : MethodName := ⟨r_Cy, "<init>", "()V"⟩
abbrev b_Sg_init : ByteArray := prog_6_method_1_code
def y_Sg_init : MethodName := ⟨r_Sg, "<init>", "()V"⟩
abbrev b_St_valid : ByteArray := prog_1_method_5_code
def y_St_valid : MethodName := ⟨r_St, "valid", "()Z"⟩
abbrev b_Dr_isValid : ByteArray := prog_4_method_14_code
def y_Dr_isValid : MethodName := ⟨r_Dr, "isValid", "()Z"⟩
abbrev b_Dr_firstClash : ByteArray := prog_4_method_16_code
def y_Dr_firstClash : MethodName := ⟨r_Dr, "firstClash", "()I"⟩
abbrev b_Ar_fill : ByteArray := prog_18_method_103_code
def y_Ar_fill : MethodName := ⟨r_Ar, "fill", "([II)V"⟩
abbrev b_Dr_firstUneven : ByteArray := prog_4_method_17_code
def y_Dr_firstUneven : MethodName := ⟨r_Dr, "firstUneven", "()I"⟩
abbrev b_Dr_heightOf : ByteArray := prog_4_method_6_code
def y_Dr_heightOf : MethodName := ⟨r_Dr, "heightOf", "(II)I"⟩
abbrev b_Dr_landingSite : ByteArray := prog_4_method_13_code
def y_Dr_landingSite : MethodName := ⟨r_Dr, "landingSite", "(II)I"⟩
abbrev b_St_wrap : ByteArray := prog_1_method_33_code
def y_St_wrap : MethodName := ⟨r_St, "wrap", "(II)I"⟩
abbrev b_Dr_landingHand : ByteArray := prog_4_method_12_code
def y_Dr_landingHand : MethodName := ⟨r_Dr, "landingHand", "(III)I"⟩
abbrev b_Dr_firstMeeting : ByteArray := prog_4_method_18_code
def y_Dr_firstMeeting : MethodName := ⟨r_Dr, "firstMeeting", "()I"⟩
abbrev b_Dr_firstHeight : ByteArray := prog_4_method_7_code
def y_Dr_firstHeight : MethodName := ⟨r_Dr, "firstHeight", "(I)I"⟩
abbrev b_St_clash : ByteArray := prog_1_method_6_code
def y_St_clash : MethodName := ⟨r_St, "clash", "()I"⟩
abbrev b_St_highest : ByteArray := prog_1_method_23_code
def y_St_highest : MethodName := ⟨r_St, "highest", "()I"⟩
abbrev b_Sg_lastToLand : ByteArray := prog_6_method_12_code
def y_Sg_lastToLand : MethodName := ⟨r_Sg, "lastToLand", "()I"⟩
abbrev b_Lw_begin : ByteArray := method_3_code
def y_Lw_begin : MethodName := ⟨r_Lw, "begin", "(LSiteswapStudio;II[J)I"⟩
abbrev b_St_begin : ByteArray := prog_1_method_2_code
def y_St_begin : MethodName := ⟨r_St, "begin", "(II)I"⟩
abbrev b_St_isOdd : ByteArray := prog_1_method_32_code
def y_St_isOdd : MethodName := ⟨r_St, "isOdd", "(I)Z"⟩
abbrev b_Dr_clear : ByteArray := prog_4_method_2_code
def y_Dr_clear : MethodName := ⟨r_Dr, "clear", "(II)V"⟩
abbrev b_Lw_put : ByteArray := method_4_code
def y_Lw_put : MethodName := ⟨r_Lw, "put", "(LSiteswapStudio;IIZ[J)I"⟩
abbrev b_St_put : ByteArray := prog_1_method_3_code
def y_St_put : MethodName := ⟨r_St, "put", "(IIZ)I"⟩
abbrev b_St_requireSite : ByteArray := prog_1_method_25_code
def y_St_requireSite : MethodName := ⟨r_St, "requireSite", "(I)V"⟩
abbrev b_Dr_hasSite : ByteArray := prog_4_method_4_code
def y_Dr_hasSite : MethodName := ⟨r_Dr, "hasSite", "(I)Z"⟩
abbrev b_St_requireHeight : ByteArray := prog_1_method_26_code
def y_St_requireHeight : MethodName := ⟨r_St, "requireHeight", "(I)V"⟩
abbrev b_Dr_setFirst : ByteArray := prog_4_method_9_code
def y_Dr_setFirst : MethodName := ⟨r_Dr, "setFirst", "(IIZ)V"⟩
abbrev b_Lw_add : ByteArray := method_5_code
def y_Lw_add : MethodName := ⟨r_Lw, "add", "(LSiteswapStudio;II[J)I"⟩
abbrev b_St_add : ByteArray := prog_1_method_4_code
def y_St_add : MethodName := ⟨r_St, "add", "(II)I"⟩
abbrev b_Dr_throwsOf : ByteArray := prog_4_method_5_code
def y_Dr_throwsOf : MethodName := ⟨r_Dr, "throwsOf", "(I)I"⟩
abbrev b_Dr_append : ByteArray := prog_4_method_10_code
def y_Dr_append : MethodName := ⟨r_Dr, "append", "(II)I"⟩
abbrev b_Lw_balls : ByteArray := method_6_code
def y_Lw_balls : MethodName := ⟨r_Lw, "balls", "(LSiteswapStudio;[J)I"⟩
abbrev b_St_balls : ByteArray := prog_1_method_7_code
def y_St_balls : MethodName := ⟨r_St, "balls", "()I"⟩
abbrev b_St_requireValid : ByteArray := prog_1_method_29_code
def y_St_requireValid : MethodName := ⟨r_St, "requireValid", "()V"⟩
abbrev b_Dr_ballCount : ByteArray := prog_4_method_19_code
def y_Dr_ballCount : MethodName := ⟨r_Dr, "ballCount", "()I"⟩
abbrev b_Lw_state : ByteArray := method_7_code
def y_Lw_state : MethodName := ⟨r_Lw, "state", "(LSiteswapStudio;I[J)I"⟩
abbrev b_St_state : ByteArray := prog_1_method_8_code
def y_St_state : MethodName := ⟨r_St, "state", "(I)I"⟩
abbrev b_St_requirePlain : ByteArray := prog_1_method_28_code
def y_St_requirePlain : MethodName := ⟨r_St, "requirePlain", "()V"⟩
abbrev b_Dr_stateBefore : ByteArray := prog_4_method_20_code
def y_Dr_stateBefore : MethodName := ⟨r_Dr, "stateBefore", "(I)I"⟩
abbrev b_Lw_swap : ByteArray := method_8_code
def y_Lw_swap : MethodName := ⟨r_Lw, "swap", "(LSiteswapStudio;II[J)I"⟩
abbrev b_St_swap : ByteArray := prog_1_method_9_code
def y_St_swap : MethodName := ⟨r_St, "swap", "(II)Z"⟩
abbrev b_Dr_swapLandings : ByteArray := prog_4_method_23_code
def y_Dr_swapLandings : MethodName := ⟨r_Dr, "swapLandings", "(II)Z"⟩
abbrev b_Lw_canonical : ByteArray := method_9_code
def y_Lw_canonical : MethodName := ⟨r_Lw, "canonical", "(LSiteswapStudio;[J)I"⟩
abbrev b_St_canonical : ByteArray := prog_1_method_10_code
def y_St_canonical : MethodName := ⟨r_St, "canonical", "()I"⟩
abbrev b_Dr_leastRotation : ByteArray := prog_4_method_24_code
def y_Dr_leastRotation : MethodName := ⟨r_Dr, "leastRotation", "()I"⟩
abbrev b_Dr_isRotationLess : ByteArray := prog_4_method_25_code
def y_Dr_isRotationLess : MethodName := ⟨r_Dr, "isRotationLess", "(II)Z"⟩
abbrev b_Dr_rotateTo : ByteArray := prog_4_method_26_code
def y_Dr_rotateTo : MethodName := ⟨r_Dr, "rotateTo", "(I)V"⟩
abbrev b_Lw_height : ByteArray := method_10_code
def y_Lw_height : MethodName := ⟨r_Lw, "height", "(LSiteswapStudio;II[J)I"⟩
abbrev b_St_height : ByteArray := prog_1_method_11_code
def y_St_height : MethodName := ⟨r_St, "height", "(II)I"⟩
abbrev b_Dr_crossingOf : ByteArray := prog_4_method_8_code
def y_Dr_crossingOf : MethodName := ⟨r_Dr, "crossingOf", "(I)I"⟩
abbrev b_Lw_save : ByteArray := method_11_code
def y_Lw_save : MethodName := ⟨r_Lw, "save", "(LSiteswapStudio;I[J)I"⟩
abbrev b_St_save : ByteArray := prog_1_method_12_code
def y_St_save : MethodName := ⟨r_St, "save", "(I)Z"⟩
abbrev b_St_requireSlot : ByteArray := prog_1_method_27_code
def y_St_requireSlot : MethodName := ⟨r_St, "requireSlot", "(I)V"⟩
abbrev b_Dr_copyFrom : ByteArray := prog_4_method_3_code
def y_Dr_copyFrom : MethodName := ⟨r_Dr, "copyFrom", "(LSiteswapStudio$Draft;)V"⟩
abbrev b_Lw_load : ByteArray := method_12_code
def y_Lw_load : MethodName := ⟨r_Lw, "load", "(LSiteswapStudio;I[J)I"⟩
abbrev b_St_load : ByteArray := prog_1_method_13_code
def y_St_load : MethodName := ⟨r_St, "load", "(I)I"⟩
abbrev b_Lw_join : ByteArray := method_13_code
def y_Lw_join : MethodName := ⟨r_Lw, "join", "(LSiteswapStudio;II[J)I"⟩
abbrev b_St_join : ByteArray := prog_1_method_14_code
def y_St_join : MethodName := ⟨r_St, "join", "(II)I"⟩
abbrev b_Dr_isPlainAndValid : ByteArray := prog_4_method_15_code
def y_Dr_isPlainAndValid : MethodName := ⟨r_Dr, "isPlainAndValid", "()Z"⟩
abbrev b_Jo_connect : ByteArray := prog_5_method_2_code
def y_Jo_connect : MethodName := ⟨r_Jo, "connect", "(LSiteswapStudio$Draft;LSiteswapStudio$Draft;)V"⟩
abbrev b_Jo_measureDistances : ByteArray := prog_5_method_4_code
def y_Jo_measureDistances : MethodName := ⟨r_Jo, "measureDistances", "(LSiteswapStudio$Draft;)V"⟩
abbrev b_Jo_reach : ByteArray := prog_5_method_5_code
def y_Jo_reach : MethodName := ⟨r_Jo, "reach", "(II)V"⟩
abbrev b_St_stateFrom : ByteArray := prog_1_method_35_code
def y_St_stateFrom : MethodName := ⟨r_St, "stateFrom", "(II)I"⟩
abbrev b_Jo_nearestSite : ByteArray := prog_5_method_6_code
def y_Jo_nearestSite : MethodName := ⟨r_Jo, "nearestSite", "(LSiteswapStudio$Draft;)I"⟩
abbrev b_Jo_distanceOf : ByteArray := prog_5_method_7_code
def y_Jo_distanceOf : MethodName := ⟨r_Jo, "distanceOf", "(LSiteswapStudio$Draft;I)I"⟩
abbrev b_Jo_walk : ByteArray := prog_5_method_8_code
def y_Jo_walk : MethodName := ⟨r_Jo, "walk", "(I)I"⟩
abbrev b_Jo_leastThrow : ByteArray := prog_5_method_9_code
def y_Jo_leastThrow : MethodName := ⟨r_Jo, "leastThrow", "(II)I"⟩
abbrev b_St_stateAfter : ByteArray := prog_1_method_34_code
def y_St_stateAfter : MethodName := ⟨r_St, "stateAfter", "(II)I"⟩
abbrev b_Dr_siteOfState : ByteArray := prog_4_method_21_code
def y_Dr_siteOfState : MethodName := ⟨r_Dr, "siteOfState", "(I)I"⟩
abbrev b_Lw_joinThrow : ByteArray := method_14_code
def y_Lw_joinThrow : MethodName := ⟨r_Lw, "joinThrow", "(LSiteswapStudio;I[J)I"⟩
abbrev b_St_joinThrow : ByteArray := prog_1_method_15_code
def y_St_joinThrow : MethodName := ⟨r_St, "joinThrow", "(I)I"⟩
abbrev b_Jo_throwAt : ByteArray := prog_5_method_3_code
def y_Jo_throwAt : MethodName := ⟨r_Jo, "throwAt", "(I)I"⟩
abbrev b_Lw_joinAt : ByteArray := method_15_code
def y_Lw_joinAt : MethodName := ⟨r_Lw, "joinAt", "(LSiteswapStudio;I[J)I"⟩
abbrev b_St_joinAt : ByteArray := prog_1_method_16_code
def y_St_joinAt : MethodName := ⟨r_St, "joinAt", "(I)I"⟩
abbrev b_Lw_countValid : ByteArray := method_16_code
def y_Lw_countValid : MethodName := ⟨r_Lw, "countValid", "(LSiteswapStudio;II[J)I"⟩
abbrev b_St_countValid : ByteArray := prog_1_method_17_code
def y_St_countValid : MethodName := ⟨r_St, "countValid", "(II)I"⟩
abbrev b_Cn_countDrafts : ByteArray := prog_2_method_2_code
def y_Cn_countDrafts : MethodName := ⟨r_Cn, "countDrafts", "(II)I"⟩
abbrev b_Cn_throwNext : ByteArray := prog_2_method_3_code
def y_Cn_throwNext : MethodName := ⟨r_Cn, "throwNext", "(II)V"⟩
abbrev b_In_bitCount : ByteArray := prog_13_method_49_code
def y_In_bitCount : MethodName := ⟨r_In, "bitCount", "(I)I"⟩
abbrev b_Cn_addRows : ByteArray := prog_2_method_4_code
def y_Cn_addRows : MethodName := ⟨r_Cn, "addRows", "(III)V"⟩
abbrev b_Lw_cycle : ByteArray := method_17_code
def y_Lw_cycle : MethodName := ⟨r_Lw, "cycle", "(LSiteswapStudio;II[J)I"⟩
abbrev b_St_cycle : ByteArray := prog_1_method_18_code
def y_St_cycle : MethodName := ⟨r_St, "cycle", "(II)I"⟩
abbrev b_Cy_find : ByteArray := prog_3_method_2_code
def y_Cy_find : MethodName := ⟨r_Cy, "find", "(II)I"⟩
abbrev b_Cy_search : ByteArray := prog_3_method_3_code
def y_Cy_search : MethodName := ⟨r_Cy, "search", "(III)I"⟩
abbrev b_Dr_isCycle : ByteArray := prog_4_method_22_code
def y_Dr_isCycle : MethodName := ⟨r_Dr, "isCycle", "()Z"⟩
abbrev b_Lw_show : ByteArray := method_18_code
def y_Lw_show : MethodName := ⟨r_Lw, "show", "(LSiteswapStudio;[J)I"⟩
abbrev b_St_show : ByteArray := prog_1_method_19_code
def y_St_show : MethodName := ⟨r_St, "show", "()I"⟩
abbrev b_Sg_open : ByteArray := prog_6_method_2_code
def y_Sg_open : MethodName := ⟨r_Sg, "open", "(LSiteswapStudio$Draft;)V"⟩
abbrev b_Sg_numberBalls : ByteArray := prog_6_method_3_code
def y_Sg_numberBalls : MethodName := ⟨r_Sg, "numberBalls", "()V"⟩
abbrev b_Sg_numberBallsLanding : ByteArray := prog_6_method_4_code
def y_Sg_numberBallsLanding : MethodName := ⟨r_Sg, "numberBallsLanding", "(II)V"⟩
abbrev b_Dr_siteThrowing : ByteArray := prog_4_method_11_code
def y_Dr_siteThrowing : MethodName := ⟨r_Dr, "siteThrowing", "(II)I"⟩
abbrev b_Sg_numberBallsOf : ByteArray := prog_6_method_5_code
def y_Sg_numberBallsOf : MethodName := ⟨r_Sg, "numberBallsOf", "(IIII)V"⟩
abbrev b_Lw_run : ByteArray := method_19_code
def y_Lw_run : MethodName := ⟨r_Lw, "run", "(LSiteswapStudio;I[J)I"⟩
abbrev b_St_run : ByteArray := prog_1_method_20_code
def y_St_run : MethodName := ⟨r_St, "run", "(I)I"⟩
abbrev b_St_requireShown : ByteArray := prog_1_method_30_code
def y_St_requireShown : MethodName := ⟨r_St, "requireShown", "()V"⟩
abbrev b_Sg_goOn : ByteArray := prog_6_method_6_code
def y_Sg_goOn : MethodName := ⟨r_Sg, "goOn", "(I)I"⟩
abbrev b_Sg_throwFrom : ByteArray := prog_6_method_7_code
def y_Sg_throwFrom : MethodName := ⟨r_Sg, "throwFrom", "(I)I"⟩
abbrev b_Sg_nextThrow : ByteArray := prog_6_method_8_code
def y_Sg_nextThrow : MethodName := ⟨r_Sg, "nextThrow", "(II)I"⟩
abbrev b_Lw_ball : ByteArray := method_20_code
def y_Lw_ball : MethodName := ⟨r_Lw, "ball", "(LSiteswapStudio;I[J)I"⟩
abbrev b_St_ball : ByteArray := prog_1_method_21_code
def y_St_ball : MethodName := ⟨r_St, "ball", "(I)I"⟩
abbrev b_St_requireBall : ByteArray := prog_1_method_31_code
def y_St_requireBall : MethodName := ⟨r_St, "requireBall", "(I)V"⟩
abbrev b_Sg_beatsUntilLanding : ByteArray := prog_6_method_9_code
def y_Sg_beatsUntilLanding : MethodName := ⟨r_Sg, "beatsUntilLanding", "(I)I"⟩
abbrev b_Lw_hand : ByteArray := method_21_code
def y_Lw_hand : MethodName := ⟨r_Lw, "hand", "(LSiteswapStudio;I[J)I"⟩
abbrev b_St_hand : ByteArray := prog_1_method_22_code
def y_St_hand : MethodName := ⟨r_St, "hand", "(I)I"⟩
abbrev b_Sg_landingHand : ByteArray := prog_6_method_10_code
def y_Sg_landingHand : MethodName := ⟨r_Sg, "landingHand", "(I)I"⟩
abbrev b_Lw_floor : ByteArray := method_22_code
def y_Lw_floor : MethodName := ⟨r_Lw, "floor", "(LSiteswapStudio;I[J)I"⟩
abbrev b_St_floor : ByteArray := prog_1_method_24_code
def y_St_floor : MethodName := ⟨r_St, "floor", "(I)I"⟩
abbrev b_Sg_throwsMade : ByteArray := prog_6_method_11_code
def y_Sg_throwsMade : MethodName := ⟨r_Sg, "throwsMade", "(I)I"⟩
abbrev b_Md_init : ByteArray := prog_8_method_1_code
def y_Md_init : MethodName := ⟨r_Md, "<init>", "()V"⟩
abbrev b_Md_fresh : ByteArray := prog_8_method_5_code
def y_Md_fresh : MethodName := ⟨r_Md, "fresh", "(III)V"⟩
abbrev b_Md_thrown : ByteArray := prog_8_method_2_code
def y_Md_thrown : MethodName := ⟨r_Md, "thrown", "()I"⟩
abbrev b_Md_begin : ByteArray := prog_8_method_9_code
def y_Md_begin : MethodName := ⟨r_Md, "begin", "(II)I"⟩
abbrev b_Md_within : ByteArray := prog_8_method_4_code
def y_Md_within : MethodName := ⟨r_Md, "within", "(III)Z"⟩
abbrev b_Md_fail : ByteArray := prog_8_method_3_code
def y_Md_fail : MethodName := ⟨r_Md, "fail", "(I)I"⟩
abbrev b_Md_put : ByteArray := prog_8_method_10_code
def y_Md_put : MethodName := ⟨r_Md, "put", "(IIZ)I"⟩
abbrev b_Md_noSite : ByteArray := prog_8_method_8_code
def y_Md_noSite : MethodName := ⟨r_Md, "noSite", "(I)Z"⟩
abbrev b_Md_tall : ByteArray := prog_8_method_7_code
def y_Md_tall : MethodName := ⟨r_Md, "tall", "(III)I"⟩
abbrev b_Md_add : ByteArray := prog_8_method_11_code
def y_Md_add : MethodName := ⟨r_Md, "add", "(II)I"⟩
abbrev b_Md_valid : ByteArray := prog_8_method_16_code
def y_Md_valid : MethodName := ⟨r_Md, "valid", "()Z"⟩
abbrev b_Md_isValid : ByteArray := prog_8_method_15_code
def y_Md_isValid : MethodName := ⟨r_Md, "isValid", "(I)Z"⟩
abbrev b_Md_landing : ByteArray := prog_8_method_13_code
def y_Md_landing : MethodName := ⟨r_Md, "landing", "(II)I"⟩
abbrev b_Md_target : ByteArray := prog_8_method_12_code
def y_Md_target : MethodName := ⟨r_Md, "target", "(III)I"⟩
abbrev b_Md_throwsAt : ByteArray := prog_8_method_14_code
def y_Md_throwsAt : MethodName := ⟨r_Md, "throwsAt", "(II)I"⟩
abbrev b_Md_clash : ByteArray := prog_8_method_17_code
def y_Md_clash : MethodName := ⟨r_Md, "clash", "()I"⟩
abbrev b_Md_balls : ByteArray := prog_8_method_19_code
def y_Md_balls : MethodName := ⟨r_Md, "balls", "()I"⟩
abbrev b_Md_ballsOf : ByteArray := prog_8_method_18_code
def y_Md_ballsOf : MethodName := ⟨r_Md, "ballsOf", "(I)I"⟩
abbrev b_Md_state : ByteArray := prog_8_method_21_code
def y_Md_state : MethodName := ⟨r_Md, "state", "(I)I"⟩
abbrev b_Md_stateOf : ByteArray := prog_8_method_20_code
def y_Md_stateOf : MethodName := ⟨r_Md, "stateOf", "(II)I"⟩
abbrev b_Md_swap : ByteArray := prog_8_method_22_code
def y_Md_swap : MethodName := ⟨r_Md, "swap", "(II)Z"⟩
abbrev b_Md_canonical : ByteArray := prog_8_method_24_code
def y_Md_canonical : MethodName := ⟨r_Md, "canonical", "()I"⟩
abbrev b_Md_lower : ByteArray := prog_8_method_23_code
def y_Md_lower : MethodName := ⟨r_Md, "lower", "(II)Z"⟩
abbrev b_Md_height : ByteArray := prog_8_method_25_code
def y_Md_height : MethodName := ⟨r_Md, "height", "(II)I"⟩
abbrev b_Md_save : ByteArray := prog_8_method_26_code
def y_Md_save : MethodName := ⟨r_Md, "save", "(I)Z"⟩
abbrev b_Md_copy : ByteArray := prog_8_method_6_code
def y_Md_copy : MethodName := ⟨r_Md, "copy", "(II)V"⟩
abbrev b_Md_load : ByteArray := prog_8_method_27_code
def y_Md_load : MethodName := ⟨r_Md, "load", "(I)I"⟩
abbrev b_Md_join : ByteArray := prog_8_method_30_code
def y_Md_join : MethodName := ⟨r_Md, "join", "(II)I"⟩
abbrev b_Md_measure : ByteArray := prog_8_method_29_code
def y_Md_measure : MethodName := ⟨r_Md, "measure", "(I)V"⟩
abbrev b_Md_behind : ByteArray := prog_8_method_28_code
def y_Md_behind : MethodName := ⟨r_Md, "behind", "(II)I"⟩
abbrev b_Md_joinThrow : ByteArray := prog_8_method_31_code
def y_Md_joinThrow : MethodName := ⟨r_Md, "joinThrow", "(I)I"⟩
abbrev b_Md_joinAt : ByteArray := prog_8_method_32_code
def y_Md_joinAt : MethodName := ⟨r_Md, "joinAt", "(I)I"⟩
abbrev b_Md_countValid : ByteArray := prog_8_method_33_code
def y_Md_countValid : MethodName := ⟨r_Md, "countValid", "(II)I"⟩
abbrev b_Md_cycle : ByteArray := prog_8_method_36_code
def y_Md_cycle : MethodName := ⟨r_Md, "cycle", "(II)I"⟩
abbrev b_Md_rowIsCycle : ByteArray := prog_8_method_35_code
def y_Md_rowIsCycle : MethodName := ⟨r_Md, "rowIsCycle", "(I)Z"⟩
abbrev b_Md_rowState : ByteArray := prog_8_method_34_code
def y_Md_rowState : MethodName := ⟨r_Md, "rowState", "(II)I"⟩
abbrev b_Md_show : ByteArray := prog_8_method_40_code
def y_Md_show : MethodName := ⟨r_Md, "show", "()I"⟩
abbrev b_Md_enter : ByteArray := prog_8_method_38_code
def y_Md_enter : MethodName := ⟨r_Md, "enter", "(II)V"⟩
abbrev b_Md_comes : ByteArray := prog_8_method_39_code
def y_Md_comes : MethodName := ⟨r_Md, "comes", "(II)V"⟩
abbrev b_Md_run : ByteArray := prog_8_method_43_code
def y_Md_run : MethodName := ⟨r_Md, "run", "(I)I"⟩
abbrev b_Md_beat : ByteArray := prog_8_method_42_code
def y_Md_beat : MethodName := ⟨r_Md, "beat", "()I"⟩
abbrev b_Md_fly : ByteArray := prog_8_method_41_code
def y_Md_fly : MethodName := ⟨r_Md, "fly", "(III)V"⟩
abbrev b_Md_handOf : ByteArray := prog_8_method_37_code
def y_Md_handOf : MethodName := ⟨r_Md, "handOf", "(II)I"⟩
abbrev b_Md_ball : ByteArray := prog_8_method_44_code
def y_Md_ball : MethodName := ⟨r_Md, "ball", "(I)I"⟩
abbrev b_Md_hand : ByteArray := prog_8_method_45_code
def y_Md_hand : MethodName := ⟨r_Md, "hand", "(I)I"⟩
abbrev b_Md_highest : ByteArray := prog_8_method_46_code
def y_Md_highest : MethodName := ⟨r_Md, "highest", "()I"⟩
abbrev b_Md_floor : ByteArray := prog_8_method_47_code
def y_Md_floor : MethodName := ⟨r_Md, "floor", "(I)I"⟩
abbrev b_Lw_law : ByteArray := code
def y_Lw_law : MethodName := ⟨r_Lw, "law", "([I)Z"⟩
end
section
/-! THE LAYER (pictures): the heap as a function from small numbers to cells; al gives each number its address. A value .ref i speaks of cell i; .float _ is the law's script. -/
def jl_v (sb : Nat) (al : Nat → Nat) : Value → Value
  | .ref i => .ref (al i)
  | .float _ => .ref sb
  | .int x => .int x
  | .long x => .long x
  | .double x => .double x
  | .null => .null
  | .retAddr k => .retAddr k
abbrev jl_S : Type := (Nat → Int32) ⊕ (Nat → Int64) ⊕ (Nat → UInt32) ⊕ (Nat → UInt64) ⊕ (Nat → Option Nat)
def jl_x (al : Nat → Nat) : jl_S → jl_S
  | .inl f => .inl f
  | .inr (.inl f) => .inr (.inl f)
  | .inr (.inr (.inl f)) => .inr (.inr (.inl f))
  | .inr (.inr (.inr (.inl f))) => .inr (.inr (.inr (.inl f)))
  | .inr (.inr (.inr (.inr f))) => .inr (.inr (.inr (.inr (fun j => (f j).map al))))
def jl_e (dA : Nat → ClassId) (sb : Nat) (al : Nat → Nat) : va_E → va_E
  | .inl a => .inl (dA a.1, a.2.1, jl_x al a.2.2)
  | .inr o => .inr (o.1, o.2.map (jl_v sb al))
def jl_w (dA : Nat → ClassId) (sb : Nat) (al : Nat → Nat) (n : Nat) (h : Nat → va_E) : va_W := (List.range n).map (fun i => (al i, jl_e dA sb al (h i)))
def jl_okv (n : Nat) : Value → Prop
  | .ref i => i < n
  | .float _ => True
  | .int _ => True
  | .long _ => True
  | .double _ => True
  | .null => True
  | .retAddr _ => True
def jl_oks (n : Nat) : List Value → Prop
  | [] => True
  | v :: r => jl_okv n v ∧ jl_oks n r
def jl_oke (n : Nat) : va_E → Prop
  | .inl a => ∀ f : Nat → Option Nat, a.2.2 = .inr (.inr (.inr (.inr f))) → ∀ j i, f j = some i → i < n
  | .inr o => ∀ v, v ∈ o.2 → jl_okv n v
/-- pictures of an int array, a long array, an array of references (t: which), an object -/
abbrev jI (n : Nat) (f : Nat → Int32) : va_E := .inl (0, n, .inl f)
abbrev jJ (n : Nat) (f : Nat → Int64) : va_E := .inl (1, n, .inr (.inl f))
abbrev jQ (t n : Nat) (f : Nat → Option Nat) : va_E := .inl (t, n, .inr (.inr (.inr (.inr f))))
abbrev jO (c : Nat) (fs : List Value) : va_E := .inr (c, fs)
theorem jl_cat (sb : Nat) (al : Nat → Nat) (v : Value) : (jl_v sb al v).category = v.category := by cases v <;> rfl
theorem jl_v_ext {sb n : Nat} {al al' : Nat → Nat} {v : Value} (h : jl_okv n v) (he : ∀ i, i < n → al' i = al i) : jl_v sb al' v = jl_v sb al v := by
  cases v with
  | ref i => exact congrArg Value.ref (he i h)
  | _ => rfl
theorem jl_okv_mono {n n' : Nat} {v : Value} (h : jl_okv n v) (hn : n ≤ n') : jl_okv n' v := by
  cases v with
  | ref i => exact Nat.lt_of_lt_of_le h hn
  | _ => exact trivial
theorem jl_oks_mono {n n' : Nat} (hn : n ≤ n') : ∀ {st : List Value}, jl_oks n st → jl_oks n' st
  | [], _ => trivial
  | _ :: _, h => ⟨jl_okv_mono h.1 hn, jl_oks_mono hn h.2⟩
theorem jl_oks_map {sb n : Nat} {al al' : Nat → Nat} (he : ∀ i, i < n → al' i = al i) : ∀ {st : List Value}, jl_oks n st → st.map (jl_v sb al') = st.map (jl_v sb al)
  | [], _ => rfl
  | _ :: _, h => by rw [List.map_cons, List.map_cons, jl_v_ext h.1 he, jl_oks_map he h.2]
theorem jl_oke_mono {n n' : Nat} {e : va_E} (h : jl_oke n e) (hn : n ≤ n') : jl_oke n' e := by
  cases e with
  | inl a => exact fun f hf j i hi => Nat.lt_of_lt_of_le (h f hf j i hi) hn
  | inr o => exact fun v hv => jl_okv_mono (h v hv) hn
theorem jl_e_ext {dA : Nat → ClassId} {sb n : Nat} {al al' : Nat → Nat} {e : va_E} (h : jl_oke n e) (he : ∀ i, i < n → al' i = al i) : jl_e dA sb al' e = jl_e dA sb al e := by
  cases e with
  | inl a =>
    obtain ⟨t, k, x⟩ := a
    show Sum.inl (dA t, k, jl_x al' x) = Sum.inl (dA t, k, jl_x al x)
    have hx : jl_x al' x = jl_x al x := by
      match x, h with
      | .inl f, _ => rfl
      | .inr (.inl f), _ => rfl
      | .inr (.inr (.inl f)), _ => rfl
      | .inr (.inr (.inr (.inl f))), _ => rfl
      | .inr (.inr (.inr (.inr f))), h =>
        have hf : (fun j => (f j).map al') = (fun j => (f j).map al) := by
          funext j
          cases hj : f j with
          | none => rfl
          | some i => exact congrArg some (he i (h f rfl j i hj))
        show (Sum.inr (Sum.inr (Sum.inr (Sum.inr (fun j => (f j).map al')))) : jl_S) = _
        rw [hf]
        rfl
    rw [hx]
  | inr o =>
    obtain ⟨c, fs⟩ := o
    show Sum.inr (c, fs.map (jl_v sb al')) = Sum.inr (c, fs.map (jl_v sb al))
    have hx : fs.map (jl_v sb al') = fs.map (jl_v sb al) := List.map_congr_left fun v hv => jl_v_ext (h v hv) he
    rw [hx]
theorem jl_w_get {dA : Nat → ClassId} {sb n k : Nat} {al : Nat → Nat} {h : Nat → va_E} (hk : k < n) : (jl_w dA sb al n h)[k]? = some (al k, jl_e dA sb al (h k)) := by
  simp [jl_w, hk]
theorem jl_w_len {dA : Nat → ClassId} {sb n : Nat} {al : Nat → Nat} {h : Nat → va_E} : (jl_w dA sb al n h).length = n := by simp [jl_w]
theorem jl_w_set {dA : Nat → ClassId} {sb n k : Nat} {al : Nat → Nat} {h : Nat → va_E} (hk : k < n) (e : va_E) : (jl_w dA sb al n h).set k (al k, jl_e dA sb al e) = jl_w dA sb al n (va_up h k e) := by
  apply List.ext_getElem?
  intro j
  by_cases hj : j < n
  · rw [jl_w_get hj, List.getElem?_set]
    by_cases e1 : k = j
    · subst e1
      rw [if_pos rfl, if_pos (by rw [jl_w_len]; exact hk), va_up_self]
    · rw [if_neg e1, jl_w_get hj, va_up_ne _ _ (Ne.symm e1)]
  · have h1 : n ≤ j := Nat.le_of_not_lt hj
    rw [List.getElem?_eq_none (by rw [List.length_set, jl_w_len]; exact h1), List.getElem?_eq_none (by rw [jl_w_len]; exact h1)]
theorem jl_w_new {dA : Nat → ClassId} {sb n q : Nat} {al : Nat → Nat} {h : Nat → va_E} (ho : ∀ i, i < n → jl_oke n (h i)) (e : va_E) : jl_w dA sb al n h ++ [(q, jl_e dA sb (va_up al n q) e)] = jl_w dA sb (va_up al n q) (n + 1) (va_up h n e) := by
  have h1 : jl_w dA sb (va_up al n q) (n + 1) (va_up h n e) = (List.range n).map (fun i => (va_up al n q i, jl_e dA sb (va_up al n q) (va_up h n e i))) ++ [(va_up al n q n, jl_e dA sb (va_up al n q) (va_up h n e n))] := by
    simp [jl_w, List.range_succ]
  rw [h1, va_up_self, va_up_self]
  congr 1
  refine List.map_congr_left fun i hi => ?_
  have hlt : i < n := List.mem_range.mp hi
  have hne : i ≠ n := Nat.ne_of_lt hlt
  rw [va_up_ne _ _ hne, va_up_ne _ _ hne, jl_e_ext (ho i hlt) (fun j hj => va_up_ne _ _ (Nat.ne_of_lt hj))]
/-- what is fixed in a run: the classes' numbers and slots, the array classes' numbers, the script's cell, where the law's own cells begin, the script -/
abbrev jl_G : Type := va_G × (Nat → ClassId) × Nat × Nat × Nat × (Nat → Int32)
abbrev jl_A (G : jl_G) : Nat → Prop := fun q => G.2.2.2.1 ≤ q
abbrev jl_W (G : jl_G) (al : Nat → Nat) (n : Nat) (h : Nat → va_E) : va_W := jl_w G.2.1 G.2.2.1 al n h
def jl_R (G : jl_G) (n : Nat) (h : Nat → va_E) (al : Nat → Nat) (s : State) (H : Heap) (locs : List Loc) : Prop :=
  va_P G.1 vwCl (jl_W G al n h) H ∧ va_D (jl_A G) (jl_W G al n h) ∧ va_S (jl_A G) s.heap H locs ∧ ∀ i, i < n → jl_oke n (h i)
def jl_L (sb nL n : Nat) (al : Nat → Nat) (ls : Array Slot) (L : List (Option Value)) : Prop :=
  ls.size = nL ∧ lv_wf ls ∧ ∀ (i : Nat) (v : Value), L[i]? = some (some v) → ls[i]? = some (.val (jl_v sb al v)) ∧ jl_okv n v ∧ v.category = 1
def jl_pr (sb : Nat) (al : Nat → Nat) (L : List (Option Value)) : List (Nat × Value) := (List.range L.length).filterMap (fun i => match L[i]? with
  | some (some v) => some (i, jl_v sb al v)
  | _ => none)
theorem jl_pr_mem {sb : Nat} {al : Nat → Nat} {L : List (Option Value)} {q : Nat × Value} : q ∈ jl_pr sb al L ↔ ∃ v, L[q.1]? = some (some v) ∧ q.2 = jl_v sb al v := by
  unfold jl_pr
  rw [List.mem_filterMap]
  constructor
  · rintro ⟨i, hi, h⟩
    cases hL : L[i]? with
    | none => rw [hL] at h; cases h
    | some o =>
      cases o with
      | none => rw [hL] at h; cases h
      | some v =>
        rw [hL] at h
        cases h
        exact ⟨v, hL, rfl⟩
  · rintro ⟨v, hv, h2⟩
    refine ⟨q.1, List.mem_range.mpr (List.getElem?_eq_some_iff.mp hv).1, ?_⟩
    rw [hv]
    show some (q.1, jl_v sb al v) = some q
    rw [← h2]
theorem jl_L.has {sb nL n : Nat} {al : Nat → Nat} {ls : Array Slot} {L : List (Option Value)} (h : jl_L sb nL n al ls L) : lv_has ls nL (jl_pr sb al L) := by
  refine ⟨h.1, h.2.1, fun q hq => ?_⟩
  obtain ⟨v, hv, h2⟩ := jl_pr_mem.mp hq
  rw [h2]
  exact (h.2.2 _ _ hv).1
theorem jl_L.put {sb nL n i : Nat} {al : Nat → Nat} {ls ls' : Array Slot} {L : List (Option Value)} {x : Value} (h : jl_L sb nL n al ls L) (hx : x.category = 1) (ho : jl_okv n x)
    (h' : lv_has ls' nL ((i, jl_v sb al x) :: (jl_pr sb al L).filter (fun q => !(q.1 == i) && !(q.1 + 1 == i && q.2.category == 2)))) : jl_L sb nL n al ls' (L.set i (some x)) := by
  refine ⟨h'.1, h'.2.1, fun j v hv => ?_⟩
  rw [List.getElem?_set] at hv
  by_cases e1 : i = j
  · subst e1
    rw [if_pos rfl] at hv
    by_cases e2 : i < L.length
    · rw [if_pos e2] at hv
      cases hv
      exact ⟨h'.2.2 _ List.mem_cons_self, ho, hx⟩
    · rw [if_neg e2] at hv
      cases hv
  · rw [if_neg e1] at hv
    obtain ⟨-, h2, h3⟩ := h.2.2 j v hv
    refine ⟨h'.2.2 (j, jl_v sb al v) (List.mem_cons_of_mem _ (List.mem_filter.mpr ⟨jl_pr_mem.mpr ⟨v, hv, rfl⟩, ?_⟩)), h2, h3⟩
    have e3 : ((j == i) : Bool) = false := by simpa using Ne.symm e1
    have e4 : (jl_v sb al v).category = 1 := (jl_cat _ _ _).trans h3
    simp [e3, e4]
theorem jl_L.ext {sb nL n n' : Nat} {al al' : Nat → Nat} {ls : Array Slot} {L : List (Option Value)} (h : jl_L sb nL n al ls L) (hn : n ≤ n') (he : ∀ i, i < n → al' i = al i) : jl_L sb nL n' al' ls L := by
  refine ⟨h.1, h.2.1, fun i v hv => ?_⟩
  obtain ⟨h1, h2, h3⟩ := h.2.2 i v hv
  exact ⟨by rw [jl_v_ext h2 he]; exact h1, jl_okv_mono h2 hn, h3⟩
/-- a method: its name, code, number of locals, what it returns, its table of handlers -/
abbrev jl_M : Type := MethodName × ByteArray × Nat × Option FieldType × List (Nat × Nat × Nat × Nat)
abbrev jl_E (n0 : Nat) (al0 : Nat → Nat) (n : Nat) (al : Nat → Nat) : Prop := n0 ≤ n ∧ ∀ i, i < n0 → al i = al0 i
/-- the words of a nest mate and their like: kept by every step too -/
def jl_nw : Cond → Bool
  | .fieldLinkNest _ _ _ _ _ _ => true
  | .methodLinkNest _ _ _ _ => true
  | .castable _ _ => true
  | _ => false
def jl_T : List Cond := lw_tbl.filter goodWord
def jl_N : List Cond := lw_tbl.filter jl_nw
theorem jl_in {w : Cond} (h : w ∈ lw_tbl) (g : goodWord w = true) : w ∈ jl_T := List.mem_filter.mpr ⟨h, g⟩
theorem jl_inN {w : Cond} (h : w ∈ lw_tbl) (g : jl_nw w = true) : w ∈ jl_N := List.mem_filter.mpr ⟨h, g⟩
theorem jl_nw_warm {w : Cond} {s U : State} (g : jl_nw w = true) (hW : s.WarmedH U.vm) (h : va_Nw w s) : va_Nw w U := by
  cases w with
  | fieldLinkNest a b c d e f => exact va_Nw.warmF hW h
  | methodLinkNest a b c d => exact va_Nw.warmM hW h
  | castable a b => exact va_Nw.warmC hW h
  | _ => cases g
def jl_Z : List (String × Nat × String) := lw_tbl.filterMap (fun w => match w with
  | .stringRef a b c => some (a, b, c)
  | _ => none)
def jl_O : List String := lw_tbl.filterMap (fun w => match w with
  | .arrayOver (.object C) => some C
  | _ => none)
def jl_tyl : List FieldType := [.int, .long, .object "SiteswapStudio$Draft", .boolean]
def jl_tys (G : jl_G) : List (ClassId × FieldType) := jl_tyl.mapIdx (fun i ty => (G.2.1 i, ty))
/-- what the tables and the cells of old say, wherever the law has come to -/
def jl_K (G : jl_G) (U : State) (H : Heap) : Prop :=
  va_K G.1 vwCl (jl_tys G) U ∧ (∀ w ∈ jl_N, va_Nw w U) ∧ ((∀ z ∈ jl_Z, ∃ a, vk_R z.1 z.2.1 z.2.2 a U) ∧ ∀ C ∈ jl_O, va_AO C U) ∧ (vx_Zq Bundle.tN "UNASSIGNED_STACK" Bundle.steD (jl_A G) U H ∧ vx_Zq Bundle.tN "SUPPRESSED_SENTINEL" Bundle.listD (jl_A G) U H) ∧ va_X G.2.2.1 G.2.2.2.2.1 G.2.2.2.2.2 U H ∧ G.2.2.1 < G.2.2.2.1 ∧ G.2.2.2.1 ≤ H.size
theorem jl_K.to {G : jl_G} {s U : State} {locs : List Loc} (h : jl_K G s s.heap) (hW : s.WarmedH U.vm) (hS : va_S (jl_A G) s.heap U.heap locs) : jl_K G U U.heap := by
  obtain ⟨h1, h2, ⟨h3, h3'⟩, ⟨h4, h5⟩, h6, h7, h8⟩ := h
  refine ⟨va_K.moved hW.alike h1, fun w hw => jl_nw_warm (List.mem_filter.mp hw).2 hW (h2 w hw), ⟨fun z hz => (h3 z hz).imp fun a ha => vk_R.warm hW ha, fun C hC => (h3' C hC).moved hW.alike⟩, ⟨(h4.moved hW.alike).kept hS.2.1, (h5.moved hW.alike).kept hS.2.1⟩, (h6.moved hW.alike).kept ?_, h7, Nat.le_trans h8 hS.1⟩
  exact hS.2.1 _ (Nat.lt_of_lt_of_le h7 h8) (Nat.not_le.mpr h7)
theorem jl_K.same {G : jl_G} {s U : State} (h : jl_K G s s.heap) (hv : s.vm = U.vm) (hh : U.heap = s.heap) : jl_K G U U.heap := by
  obtain ⟨h1, h2, ⟨h3, h3'⟩, ⟨h4, h5⟩, h6, h7, h8⟩ := h
  have ha : s.vm.Alike U.vm := by rw [hv]; exact Vm.Alike.refl _
  rw [hh]
  refine ⟨va_K.moved ha h1, fun w hw => va_Nw.same ?_ hv (h2 w hw), ⟨fun z hz => (h3 z hz).imp fun a hq => vk_R.same hv.symm hq, fun C hC => (h3' C hC).moved ha⟩, ⟨h4.moved ha, h5.moved ha⟩, h6.moved ha, h7, h8⟩
  have g := (List.mem_filter.mp hw).2
  cases w with
  | fieldLinkNest a b c d e f => rfl
  | methodLinkNest a b c d => rfl
  | castable a b => rfl
  | _ => cases g
/-- a method's frame: its code and table, the words, the room that is left (d: how deep calls may go) -/
def jl_C (l : Launch) (G : jl_G) (M : jl_M) (d : Nat) (p : Program) (R : Room) (s : State) (m : MethodId) (args : Array Value) (meth : Method) (c : Code) (mc ms : Nat) : Prop :=
  (p.tables.exec = Jvm.exec ∧ c.code = M.2.1 ∧ c.maxLocals = M.2.2.1 ∧ s.vm.findClass M.1.cls = some m.cls ∧ ∀ w ∈ jl_T, w.before args s = true) ∧ meth.sig.returnType = M.2.2.2.1 ∧ meth.locks = false ∧ meth.name = M.1.name ∧ c.exceptionTable.toList = tableOf M.2.2.2.2 ∧ l.stackTraces = false ∧ jl_K G s s.heap ∧ (d + 10 ≤ R.frames ∧ 64 * d + 256 ≤ R.locals ∧ mc ≤ R.cells ∧ ms ≤ R.slots)
/-- THE JUDGEMENT: at pc, with the locals L, the operands st, n cells pictured by h, room for ck cells of sk slots in all: the method comes to its end F -/
def jl_AW (l : Launch) (G : jl_G) (F : List Frame → Array Value → State → Nat → Nat → (Nat → Nat) → Nat → State → Prop) (M : jl_M) (d pc : Nat) (L : List (Option Value)) (st : List Value) (n : Nat) (h : Nat → va_E) (ck sk : Nat) : Prop :=
  ∀ (p : Program) (e : Env) (R : Room) (s : State) (m : MethodId) (args : Array Value) (below : List Frame) (meth : Method) (c : Code) (al0 : Nat → Nat) (n0 mc ms : Nat) (al : Nat → Nat) (H : Heap) (locs : List Loc) (ls : Array Slot) (cells slots : Nat),
    jl_C l G M d p R s m args meth c mc ms → jl_R G n h al s H locs → jl_E n0 al0 n al → jl_L G.2.2.1 M.2.2.1 n al ls L → jl_oks n st → cells + ck ≤ mc → slots + sk ≤ ms →
    W p l e R s m args below meth c H locs cells slots (F below args s mc ms al0 n0) (F0 m pc ls (st.map (jl_v G.2.2.1 al)))
def jl_P (G : jl_G) (al0 : Nat → Nat) (n0 : Nat) (al : Nat → Nat) (n : Nat) (h : Nat → va_E) (st t : State) : Prop :=
  jl_E n0 al0 n al ∧ va_P G.1 vwCl (jl_W G al n h) t.heap ∧ va_D (jl_A G) (jl_W G al n h) ∧ (∀ i, i < n → jl_oke n (h i)) ∧ va_F (jl_A G) st t
def jl_Q (G : jl_G) (al0 : Nat → Nat) (n0 : Nat) (Kr : Option Value → Nat → (Nat → va_E) → Prop) : Array Value → State → Outcome → State → Prop := fun _ st oc t =>
  ∃ (r : Option Value) (n : Nat) (h : Nat → va_E) (al : Nat → Nat), oc = .returned (r.map (jl_v G.2.2.1 al)) ∧ Kr r n h ∧ jl_P G al0 n0 al n h st t ∧ jl_oks n r.toList
def jl_X (G : jl_G) (al0 : Nat → Nat) (n0 : Nat) (Kx : String → Nat → (Nat → va_E) → Prop) : String → State → State → Prop := fun E st t =>
  ∃ (n : Nat) (h : Nat → va_E) (al : Nat → Nat), Kx E n h ∧ jl_P G al0 n0 al n h st t
def jl_F (G : jl_G) (Kr : Option Value → Nat → (Nat → va_E) → Prop) (Kx : String → Nat → (Nat → va_E) → Prop) : List Frame → Array Value → State → Nat → Nat → (Nat → Nat) → Nat → State → Prop :=
  fun below args s mc ms al0 n0 => vx_MQ below (jl_Q G al0 n0 Kr) (jl_X G al0 n0 Kx) args s mc ms (jl_A G)
def jl_rm (d ck sk : Nat) : Room := { frames := d + 10, cells := ck, slots := sk, locals := 64 * d + 256 }
theorem jl_rm_fr (d ck sk : Nat) : (jl_rm d ck sk).frames = d + 10 := rfl
theorem jl_rm_lo (d ck sk : Nat) : (jl_rm d ck sk).locals = 64 * d + 256 := rfl
def jl_cw (M : jl_M) : Cond := match M.2.2.2.2 with
  | [] => .code M.1 M.2.1 M.2.2.1 M.2.2.2.1
  | _ => .codeWith M.1 M.2.1 M.2.2.1 M.2.2.2.1 M.2.2.2.2
def jl_Pc (G : jl_G) (al : Nat → Nat) (n : Nat) (h : Nat → va_E) : State → Prop := fun U => jl_K G U U.heap ∧ va_P G.1 vwCl (jl_W G al n h) U.heap
/-- a method CALLED with these arguments: it returns with Kr or throws with Kx -/
def jl_Call (l : Launch) (G : jl_G) (M : jl_M) (d : Nat) (as : List Value) (n : Nat) (h : Nat → va_E) (ck sk : Nat) (Kr : Option Value → Nat → (Nat → va_E) → Prop) (Kx : String → Nat → (Nat → va_E) → Prop) : Prop :=
  ∀ al : Nat → Nat, va_D (jl_A G) (jl_W G al n h) → (∀ i, i < n → jl_oke n (h i)) → jl_oks n as →
    vx_Met l M.1 (jl_cw M :: jl_T) (jl_rm d ck sk) (va_Pc (as.map (jl_v G.2.2.1 al)) (jl_Pc G al n h)) (jl_Q G al n Kr) (jl_X G al n Kx) ck sk (jl_A G)
section JL
variable {l : Launch} {G : jl_G} {F : List Frame → Array Value → State → Nat → Nat → (Nat → Nat) → Nat → State → Prop} {M : jl_M} {d pc : Nat} {L : List (Option Value)} {st : List Value} {n : Nat} {h : Nat → va_E} {ck sk : Nat}

theorem jl_iconst {a : Int} {v : Int32} (hd : decode M.2.1 pc = .ok (.iconst a, 1)) (hv : Int32.ofInt a = v) (k : jl_AW l G F M d (pc + 1) L (.int v :: st) n h ck sk) : jl_AW l G F M d pc L (st) n h ck sk := by
  intro p e R s m args below meth c al0 n0 mc ms al H locs ls cells slots C hR hE hl hs h1 h2
  exact lv_iconst C.1.1 C.1.2.1 hd hv (k p e R s m args below meth c al0 n0 mc ms al H locs ls cells slots C hR hE hl ⟨trivial, hs⟩ h1 h2)
theorem jl_bipush {a : Int} {v : Int32} (hd : decode M.2.1 pc = .ok (.bipush a, 2)) (hv : (Int8.ofInt a).toInt32 = v) (k : jl_AW l G F M d (pc + 2) L (.int v :: st) n h ck sk) : jl_AW l G F M d pc L (st) n h ck sk := by
  intro p e R s m args below meth c al0 n0 mc ms al H locs ls cells slots C hR hE hl hs h1 h2
  exact lv_bipush C.1.1 C.1.2.1 hd hv (k p e R s m args below meth c al0 n0 mc ms al H locs ls cells slots C hR hE hl ⟨trivial, hs⟩ h1 h2)
theorem jl_sipush {a : Int} {v : Int32} (hd : decode M.2.1 pc = .ok (.sipush a, 3)) (hv : (Int16.ofInt a).toInt32 = v) (k : jl_AW l G F M d (pc + 3) L (.int v :: st) n h ck sk) : jl_AW l G F M d pc L (st) n h ck sk := by
  intro p e R s m args below meth c al0 n0 mc ms al H locs ls cells slots C hR hE hl hs h1 h2
  exact lv_sipush C.1.1 C.1.2.1 hd hv (k p e R s m args below meth c al0 n0 mc ms al H locs ls cells slots C hR hE hl ⟨trivial, hs⟩ h1 h2)
theorem jl_lconst {a : Fin 2} {v : Int64} (hd : decode M.2.1 pc = .ok (.lconst a, 1)) (hv : Int64.ofNat (a : Nat) = v) (k : jl_AW l G F M d (pc + 1) L (.long v :: st) n h ck sk) : jl_AW l G F M d pc L (st) n h ck sk := by
  intro p e R s m args below meth c al0 n0 mc ms al H locs ls cells slots C hR hE hl hs h1 h2
  exact lv_lconst C.1.1 C.1.2.1 hd hv (k p e R s m args below meth c al0 n0 mc ms al H locs ls cells slots C hR hE hl ⟨trivial, hs⟩ h1 h2)
theorem jl_null (hd : decode M.2.1 pc = .ok (.aconst_null, 1)) (k : jl_AW l G F M d (pc + 1) L (.null :: st) n h ck sk) : jl_AW l G F M d pc L (st) n h ck sk := by
  intro p e R s m args below meth c al0 n0 mc ms al H locs ls cells slots C hR hE hl hs h1 h2
  exact lv_null C.1.1 C.1.2.1 hd (k p e R s m args below meth c al0 n0 mc ms al H locs ls cells slots C hR hE hl ⟨trivial, hs⟩ h1 h2)
theorem jl_ldc {ix : Nat} {v : Int32} (hd : decode M.2.1 pc = .ok (.ldc ix, 2)) (hw : Cond.constant M.1.cls ix v ∈ jl_T) (k : jl_AW l G F M d (pc + 2) L (.int v :: st) n h ck sk) : jl_AW l G F M d pc L st n h ck sk := by
  intro p e R s m args below meth c al0 n0 mc ms al H locs ls cells slots C hR hE hl hs h1 h2
  exact lv_ldc C.1.1 C.1.2.1 C.1.2.2.2.1 (C.1.2.2.2.2 _ hw) hd (k p e R s m args below meth c al0 n0 mc ms al H locs ls cells slots C hR hE hl ⟨trivial, hs⟩ h1 h2)
theorem jl_iload_n {a : Fin 4} {i : Nat} {x : Int32} (hd : decode M.2.1 pc = .ok (.iload_n a, 1)) (hi : (a : Nat) = i) (hL : L[i]? = some (some (.int x))) (k : jl_AW l G F M d (pc + 1) L (.int x :: st) n h ck sk) : jl_AW l G F M d pc L st n h ck sk := by
  intro p e R s m args below meth c al0 n0 mc ms al H locs ls cells slots C hR hE hl hs h1 h2
  exact lv_iload_n C.1.1 C.1.2.1 hd hi (hl.2.2 i _ hL).1 (k p e R s m args below meth c al0 n0 mc ms al H locs ls cells slots C hR hE hl ⟨trivial, hs⟩ h1 h2)
theorem jl_iload {i : Nat} {x : Int32} (hd : decode M.2.1 pc = .ok (.iload i, 2)) (hL : L[i]? = some (some (.int x))) (k : jl_AW l G F M d (pc + 2) L (.int x :: st) n h ck sk) : jl_AW l G F M d pc L st n h ck sk := by
  intro p e R s m args below meth c al0 n0 mc ms al H locs ls cells slots C hR hE hl hs h1 h2
  exact lv_iload C.1.1 C.1.2.1 hd (hl.2.2 i _ hL).1 (k p e R s m args below meth c al0 n0 mc ms al H locs ls cells slots C hR hE hl ⟨trivial, hs⟩ h1 h2)
theorem jl_aload_n {a : Fin 4} {i : Nat} {x : Nat} (hd : decode M.2.1 pc = .ok (.aload_n a, 1)) (hi : (a : Nat) = i) (hL : L[i]? = some (some (.ref x))) (k : jl_AW l G F M d (pc + 1) L (.ref x :: st) n h ck sk) : jl_AW l G F M d pc L st n h ck sk := by
  intro p e R s m args below meth c al0 n0 mc ms al H locs ls cells slots C hR hE hl hs h1 h2
  exact lv_aload_n C.1.1 C.1.2.1 hd hi (hl.2.2 i _ hL).1 (k p e R s m args below meth c al0 n0 mc ms al H locs ls cells slots C hR hE hl ⟨(hl.2.2 i _ hL).2.1, hs⟩ h1 h2)
theorem jl_aload {i : Nat} {x : Nat} (hd : decode M.2.1 pc = .ok (.aload i, 2)) (hL : L[i]? = some (some (.ref x))) (k : jl_AW l G F M d (pc + 2) L (.ref x :: st) n h ck sk) : jl_AW l G F M d pc L st n h ck sk := by
  intro p e R s m args below meth c al0 n0 mc ms al H locs ls cells slots C hR hE hl hs h1 h2
  exact lv_aload C.1.1 C.1.2.1 hd (hl.2.2 i _ hL).1 (k p e R s m args below meth c al0 n0 mc ms al H locs ls cells slots C hR hE hl ⟨(hl.2.2 i _ hL).2.1, hs⟩ h1 h2)
theorem jl_sload_n {a : Fin 4} {i : Nat} {x : UInt32} (hd : decode M.2.1 pc = .ok (.aload_n a, 1)) (hi : (a : Nat) = i) (hL : L[i]? = some (some (.float x))) (k : jl_AW l G F M d (pc + 1) L (.float x :: st) n h ck sk) : jl_AW l G F M d pc L st n h ck sk := by
  intro p e R s m args below meth c al0 n0 mc ms al H locs ls cells slots C hR hE hl hs h1 h2
  exact lv_aload_n C.1.1 C.1.2.1 hd hi (hl.2.2 i _ hL).1 (k p e R s m args below meth c al0 n0 mc ms al H locs ls cells slots C hR hE hl ⟨trivial, hs⟩ h1 h2)
theorem jl_sload {i : Nat} {x : UInt32} (hd : decode M.2.1 pc = .ok (.aload i, 2)) (hL : L[i]? = some (some (.float x))) (k : jl_AW l G F M d (pc + 2) L (.float x :: st) n h ck sk) : jl_AW l G F M d pc L st n h ck sk := by
  intro p e R s m args below meth c al0 n0 mc ms al H locs ls cells slots C hR hE hl hs h1 h2
  exact lv_aload C.1.1 C.1.2.1 hd (hl.2.2 i _ hL).1 (k p e R s m args below meth c al0 n0 mc ms al H locs ls cells slots C hR hE hl ⟨trivial, hs⟩ h1 h2)
theorem jl_nload_n {a : Fin 4} {i : Nat} (hd : decode M.2.1 pc = .ok (.aload_n a, 1)) (hi : (a : Nat) = i) (hL : L[i]? = some (some (.null))) (k : jl_AW l G F M d (pc + 1) L (.null :: st) n h ck sk) : jl_AW l G F M d pc L st n h ck sk := by
  intro p e R s m args below meth c al0 n0 mc ms al H locs ls cells slots C hR hE hl hs h1 h2
  exact lv_aload_nN C.1.1 C.1.2.1 hd hi (hl.2.2 i _ hL).1 (k p e R s m args below meth c al0 n0 mc ms al H locs ls cells slots C hR hE hl ⟨trivial, hs⟩ h1 h2)
theorem jl_nload {i : Nat} (hd : decode M.2.1 pc = .ok (.aload i, 2)) (hL : L[i]? = some (some (.null))) (k : jl_AW l G F M d (pc + 2) L (.null :: st) n h ck sk) : jl_AW l G F M d pc L st n h ck sk := by
  intro p e R s m args below meth c al0 n0 mc ms al H locs ls cells slots C hR hE hl hs h1 h2
  exact lv_aloadN C.1.1 C.1.2.1 hd (hl.2.2 i _ hL).1 (k p e R s m args below meth c al0 n0 mc ms al H locs ls cells slots C hR hE hl ⟨trivial, hs⟩ h1 h2)
theorem jl_istore_n {a : Fin 4} {i : Nat} {x : Int32} {L' : List (Option Value)} (hd : decode M.2.1 pc = .ok (.istore_n a, 1)) (hi : (a : Nat) = i) (hn : i < M.2.2.1) (hL : L.set i (some (.int x)) = L') (k : jl_AW l G F M d (pc + 1) L' st n h ck sk) : jl_AW l G F M d pc L (.int x :: st) n h ck sk := by
  intro p e R s m args below meth c al0 n0 mc ms al H locs ls cells slots C hR hE hl hs h1 h2
  subst hL
  exact lv_istore_n C.1.1 C.1.2.1 hd hi hl.has hn rfl (fun ls' h' => k p e R s m args below meth c al0 n0 mc ms al H locs ls' cells slots C hR hE (hl.put (x := .int x) rfl hs.1 h') hs.2 h1 h2)
theorem jl_istore {i : Nat} {x : Int32} {L' : List (Option Value)} (hd : decode M.2.1 pc = .ok (.istore i, 2)) (hn : i < M.2.2.1) (hL : L.set i (some (.int x)) = L') (k : jl_AW l G F M d (pc + 2) L' st n h ck sk) : jl_AW l G F M d pc L (.int x :: st) n h ck sk := by
  intro p e R s m args below meth c al0 n0 mc ms al H locs ls cells slots C hR hE hl hs h1 h2
  subst hL
  exact lv_istore C.1.1 C.1.2.1 hd hl.has hn rfl (fun ls' h' => k p e R s m args below meth c al0 n0 mc ms al H locs ls' cells slots C hR hE (hl.put (x := .int x) rfl hs.1 h') hs.2 h1 h2)
theorem jl_astore_n {a : Fin 4} {i : Nat} {x : Nat} {L' : List (Option Value)} (hd : decode M.2.1 pc = .ok (.astore_n a, 1)) (hi : (a : Nat) = i) (hn : i < M.2.2.1) (hL : L.set i (some (.ref x)) = L') (k : jl_AW l G F M d (pc + 1) L' st n h ck sk) : jl_AW l G F M d pc L (.ref x :: st) n h ck sk := by
  intro p e R s m args below meth c al0 n0 mc ms al H locs ls cells slots C hR hE hl hs h1 h2
  subst hL
  exact lv_astore_n C.1.1 C.1.2.1 hd hi hl.has hn rfl (fun ls' h' => k p e R s m args below meth c al0 n0 mc ms al H locs ls' cells slots C hR hE (hl.put (x := .ref x) rfl hs.1 h') hs.2 h1 h2)
theorem jl_astore {i : Nat} {x : Nat} {L' : List (Option Value)} (hd : decode M.2.1 pc = .ok (.astore i, 2)) (hn : i < M.2.2.1) (hL : L.set i (some (.ref x)) = L') (k : jl_AW l G F M d (pc + 2) L' st n h ck sk) : jl_AW l G F M d pc L (.ref x :: st) n h ck sk := by
  intro p e R s m args below meth c al0 n0 mc ms al H locs ls cells slots C hR hE hl hs h1 h2
  subst hL
  exact lv_astore C.1.1 C.1.2.1 hd hl.has hn rfl (fun ls' h' => k p e R s m args below meth c al0 n0 mc ms al H locs ls' cells slots C hR hE (hl.put (x := .ref x) rfl hs.1 h') hs.2 h1 h2)
theorem jl_nstore_n {a : Fin 4} {i : Nat} {L' : List (Option Value)} (hd : decode M.2.1 pc = .ok (.astore_n a, 1)) (hi : (a : Nat) = i) (hn : i < M.2.2.1) (hL : L.set i (some (.null)) = L') (k : jl_AW l G F M d (pc + 1) L' st n h ck sk) : jl_AW l G F M d pc L (.null :: st) n h ck sk := by
  intro p e R s m args below meth c al0 n0 mc ms al H locs ls cells slots C hR hE hl hs h1 h2
  subst hL
  exact lv_astore_nN C.1.1 C.1.2.1 hd hi hl.has hn rfl (fun ls' h' => k p e R s m args below meth c al0 n0 mc ms al H locs ls' cells slots C hR hE (hl.put (x := .null) rfl hs.1 h') hs.2 h1 h2)
theorem jl_nstore {i : Nat} {L' : List (Option Value)} (hd : decode M.2.1 pc = .ok (.astore i, 2)) (hn : i < M.2.2.1) (hL : L.set i (some (.null)) = L') (k : jl_AW l G F M d (pc + 2) L' st n h ck sk) : jl_AW l G F M d pc L (.null :: st) n h ck sk := by
  intro p e R s m args below meth c al0 n0 mc ms al H locs ls cells slots C hR hE hl hs h1 h2
  subst hL
  exact lv_astoreN C.1.1 C.1.2.1 hd hl.has hn rfl (fun ls' h' => k p e R s m args below meth c al0 n0 mc ms al H locs ls' cells slots C hR hE (hl.put (x := .null) rfl hs.1 h') hs.2 h1 h2)
theorem jl_iinc {i : Nat} {a : Int} {x v : Int32} {L' : List (Option Value)} (hd : decode M.2.1 pc = .ok (.iinc i a, 3)) (hx : L[i]? = some (some (.int x))) (hv : x + Int32.ofInt a = v) (hn : i < M.2.2.1) (hL : L.set i (some (.int v)) = L') (k : jl_AW l G F M d (pc + 3) L' st n h ck sk) : jl_AW l G F M d pc L st n h ck sk := by
  intro p e R s m args below meth c al0 n0 mc ms al H locs ls cells slots C hR hE hl hs h1 h2
  subst hL
  obtain ⟨j, hj⟩ := List.getElem?_of_mem (jl_pr_mem (sb := G.2.2.1) (al := al) (q := (i, .int x)).mpr ⟨.int x, hx, rfl⟩)
  exact lv_iinc C.1.1 C.1.2.1 hd hl.has hj hv hn rfl (fun ls' h' => k p e R s m args below meth c al0 n0 mc ms al H locs ls' cells slots C hR hE (hl.put (x := .int v) rfl trivial h') hs h1 h2)
theorem jl_iadd {x y : Int32} (hd : decode M.2.1 pc = .ok (.iadd, 1)) (k : jl_AW l G F M d (pc + 1) L (.int (x + y) :: st) n h ck sk) : jl_AW l G F M d pc L (.int y :: .int x :: st) n h ck sk := by
  intro p e R s m args below meth c al0 n0 mc ms al H locs ls cells slots C hR hE hl hs h1 h2
  exact lv_iadd C.1.1 C.1.2.1 hd (k p e R s m args below meth c al0 n0 mc ms al H locs ls cells slots C hR hE hl ⟨trivial, hs.2.2⟩ h1 h2)
theorem jl_isub {x y : Int32} (hd : decode M.2.1 pc = .ok (.isub, 1)) (k : jl_AW l G F M d (pc + 1) L (.int (x - y) :: st) n h ck sk) : jl_AW l G F M d pc L (.int y :: .int x :: st) n h ck sk := by
  intro p e R s m args below meth c al0 n0 mc ms al H locs ls cells slots C hR hE hl hs h1 h2
  exact lv_isub C.1.1 C.1.2.1 hd (k p e R s m args below meth c al0 n0 mc ms al H locs ls cells slots C hR hE hl ⟨trivial, hs.2.2⟩ h1 h2)
theorem jl_imul {x y : Int32} (hd : decode M.2.1 pc = .ok (.imul, 1)) (k : jl_AW l G F M d (pc + 1) L (.int (x * y) :: st) n h ck sk) : jl_AW l G F M d pc L (.int y :: .int x :: st) n h ck sk := by
  intro p e R s m args below meth c al0 n0 mc ms al H locs ls cells slots C hR hE hl hs h1 h2
  exact lv_imul C.1.1 C.1.2.1 hd (k p e R s m args below meth c al0 n0 mc ms al H locs ls cells slots C hR hE hl ⟨trivial, hs.2.2⟩ h1 h2)
theorem jl_iand {x y : Int32} (hd : decode M.2.1 pc = .ok (.iand, 1)) (k : jl_AW l G F M d (pc + 1) L (.int (x &&& y) :: st) n h ck sk) : jl_AW l G F M d pc L (.int y :: .int x :: st) n h ck sk := by
  intro p e R s m args below meth c al0 n0 mc ms al H locs ls cells slots C hR hE hl hs h1 h2
  exact lv_iand C.1.1 C.1.2.1 hd (k p e R s m args below meth c al0 n0 mc ms al H locs ls cells slots C hR hE hl ⟨trivial, hs.2.2⟩ h1 h2)
theorem jl_ior {x y : Int32} (hd : decode M.2.1 pc = .ok (.ior, 1)) (k : jl_AW l G F M d (pc + 1) L (.int (x ||| y) :: st) n h ck sk) : jl_AW l G F M d pc L (.int y :: .int x :: st) n h ck sk := by
  intro p e R s m args below meth c al0 n0 mc ms al H locs ls cells slots C hR hE hl hs h1 h2
  exact lv_ior C.1.1 C.1.2.1 hd (k p e R s m args below meth c al0 n0 mc ms al H locs ls cells slots C hR hE hl ⟨trivial, hs.2.2⟩ h1 h2)
theorem jl_ixor {x y : Int32} (hd : decode M.2.1 pc = .ok (.ixor, 1)) (k : jl_AW l G F M d (pc + 1) L (.int (x ^^^ y) :: st) n h ck sk) : jl_AW l G F M d pc L (.int y :: .int x :: st) n h ck sk := by
  intro p e R s m args below meth c al0 n0 mc ms al H locs ls cells slots C hR hE hl hs h1 h2
  exact lv_ixor C.1.1 C.1.2.1 hd (k p e R s m args below meth c al0 n0 mc ms al H locs ls cells slots C hR hE hl ⟨trivial, hs.2.2⟩ h1 h2)
theorem jl_ishl {x y : Int32} (hd : decode M.2.1 pc = .ok (.ishl, 1)) (k : jl_AW l G F M d (pc + 1) L (.int (x <<< (y &&& 31)) :: st) n h ck sk) : jl_AW l G F M d pc L (.int y :: .int x :: st) n h ck sk := by
  intro p e R s m args below meth c al0 n0 mc ms al H locs ls cells slots C hR hE hl hs h1 h2
  exact lv_ishl C.1.1 C.1.2.1 hd (k p e R s m args below meth c al0 n0 mc ms al H locs ls cells slots C hR hE hl ⟨trivial, hs.2.2⟩ h1 h2)
theorem jl_ishr {x y : Int32} (hd : decode M.2.1 pc = .ok (.ishr, 1)) (k : jl_AW l G F M d (pc + 1) L (.int (x >>> (y &&& 31)) :: st) n h ck sk) : jl_AW l G F M d pc L (.int y :: .int x :: st) n h ck sk := by
  intro p e R s m args below meth c al0 n0 mc ms al H locs ls cells slots C hR hE hl hs h1 h2
  exact lv_ishr C.1.1 C.1.2.1 hd (k p e R s m args below meth c al0 n0 mc ms al H locs ls cells slots C hR hE hl ⟨trivial, hs.2.2⟩ h1 h2)
theorem jl_iushr {x y v : Int32} (hd : decode M.2.1 pc = .ok (.iushr, 1)) (hv : (x.toUInt32 >>> (y.toUInt32 &&& Int32.toUInt32 31)).toInt32 = v) (k : jl_AW l G F M d (pc + 1) L (.int v :: st) n h ck sk) : jl_AW l G F M d pc L (.int y :: .int x :: st) n h ck sk := by
  intro p e R s m args below meth c al0 n0 mc ms al H locs ls cells slots C hR hE hl hs h1 h2
  exact lv_iushr C.1.1 C.1.2.1 hd hv (k p e R s m args below meth c al0 n0 mc ms al H locs ls cells slots C hR hE hl ⟨trivial, hs.2.2⟩ h1 h2)
theorem jl_idiv {x y : Int32} (hd : decode M.2.1 pc = .ok (.idiv, 1)) (hy : ¬ y = 0) (k : jl_AW l G F M d (pc + 1) L (.int (x / y) :: st) n h ck sk) : jl_AW l G F M d pc L (.int y :: .int x :: st) n h ck sk := by
  intro p e R s m args below meth c al0 n0 mc ms al H locs ls cells slots C hR hE hl hs h1 h2
  exact lv_idiv C.1.1 C.1.2.1 hd hy (k p e R s m args below meth c al0 n0 mc ms al H locs ls cells slots C hR hE hl ⟨trivial, hs.2.2⟩ h1 h2)
theorem jl_irem {x y : Int32} (hd : decode M.2.1 pc = .ok (.irem, 1)) (hy : ¬ y = 0) (k : jl_AW l G F M d (pc + 1) L (.int (x - x / y * y) :: st) n h ck sk) : jl_AW l G F M d pc L (.int y :: .int x :: st) n h ck sk := by
  intro p e R s m args below meth c al0 n0 mc ms al H locs ls cells slots C hR hE hl hs h1 h2
  exact lv_irem C.1.1 C.1.2.1 hd hy (k p e R s m args below meth c al0 n0 mc ms al H locs ls cells slots C hR hE hl ⟨trivial, hs.2.2⟩ h1 h2)
theorem jl_ineg {x : Int32} (hd : decode M.2.1 pc = .ok (.ineg, 1)) (k : jl_AW l G F M d (pc + 1) L (.int (-x) :: st) n h ck sk) : jl_AW l G F M d pc L (.int x :: st) n h ck sk := by
  intro p e R s m args below meth c al0 n0 mc ms al H locs ls cells slots C hR hE hl hs h1 h2
  exact lv_ineg C.1.1 C.1.2.1 hd (k p e R s m args below meth c al0 n0 mc ms al H locs ls cells slots C hR hE hl ⟨trivial, hs.2⟩ h1 h2)
theorem jl_i2l {x : Int32} (hd : decode M.2.1 pc = .ok (.i2l, 1)) (k : jl_AW l G F M d (pc + 1) L (.long x.toInt64 :: st) n h ck sk) : jl_AW l G F M d pc L (.int x :: st) n h ck sk := by
  intro p e R s m args below meth c al0 n0 mc ms al H locs ls cells slots C hR hE hl hs h1 h2
  exact lv_i2l C.1.1 C.1.2.1 hd rfl (k p e R s m args below meth c al0 n0 mc ms al H locs ls cells slots C hR hE hl ⟨trivial, hs.2⟩ h1 h2)
theorem jl_lcmp {x y : Int64} (hd : decode M.2.1 pc = .ok (.lcmp, 1)) (k : jl_AW l G F M d (pc + 1) L (.int (lg_cmp x y) :: st) n h ck sk) : jl_AW l G F M d pc L (.long y :: .long x :: st) n h ck sk := by
  intro p e R s m args below meth c al0 n0 mc ms al H locs ls cells slots C hR hE hl hs h1 h2
  exact W.lcmp C.1.1 C.1.2.1 hd (k p e R s m args below meth c al0 n0 mc ms al H locs ls cells slots C hR hE hl ⟨trivial, hs.2.2⟩ h1 h2)
theorem jl_dup {v : Value} (hd : decode M.2.1 pc = .ok (.dup, 1)) (hv : v.category = 1) (k : jl_AW l G F M d (pc + 1) L (v :: v :: st) n h ck sk) : jl_AW l G F M d pc L (v :: st) n h ck sk := by
  intro p e R s m args below meth c al0 n0 mc ms al H locs ls cells slots C hR hE hl hs h1 h2
  exact lv_dup C.1.1 C.1.2.1 hd ((jl_cat _ _ _).trans hv) (k p e R s m args below meth c al0 n0 mc ms al H locs ls cells slots C hR hE hl ⟨hs.1, hs⟩ h1 h2)
theorem jl_pop {v : Value} (hd : decode M.2.1 pc = .ok (.pop, 1)) (hv : v.category = 1) (k : jl_AW l G F M d (pc + 1) L (st) n h ck sk) : jl_AW l G F M d pc L (v :: st) n h ck sk := by
  intro p e R s m args below meth c al0 n0 mc ms al H locs ls cells slots C hR hE hl hs h1 h2
  exact lv_pop C.1.1 C.1.2.1 hd ((jl_cat _ _ _).trans hv) (k p e R s m args below meth c al0 n0 mc ms al H locs ls cells slots C hR hE hl hs.2 h1 h2)
theorem jl_dup_x1 {v w : Value} (hd : decode M.2.1 pc = .ok (.dup_x1, 1)) (hv : v.category = 1) (hw : w.category = 1) (k : jl_AW l G F M d (pc + 1) L (v :: w :: v :: st) n h ck sk) : jl_AW l G F M d pc L (v :: w :: st) n h ck sk := by
  intro p e R s m args below meth c al0 n0 mc ms al H locs ls cells slots C hR hE hl hs h1 h2
  exact lv_dup_x1 C.1.1 C.1.2.1 hd ((jl_cat _ _ _).trans hv) ((jl_cat _ _ _).trans hw) (k p e R s m args below meth c al0 n0 mc ms al H locs ls cells slots C hR hE hl ⟨hs.1, hs.2.1, hs.1, hs.2.2⟩ h1 h2)
theorem jl_dup2 {v w : Value} (hd : decode M.2.1 pc = .ok (.dup2, 1)) (hv : v.category = 1) (hw : w.category = 1) (k : jl_AW l G F M d (pc + 1) L (v :: w :: v :: w :: st) n h ck sk) : jl_AW l G F M d pc L (v :: w :: st) n h ck sk := by
  intro p e R s m args below meth c al0 n0 mc ms al H locs ls cells slots C hR hE hl hs h1 h2
  exact lv_dup2_11 C.1.1 C.1.2.1 hd ((jl_cat _ _ _).trans hv) ((jl_cat _ _ _).trans hw) (k p e R s m args below meth c al0 n0 mc ms al H locs ls cells slots C hR hE hl ⟨hs.1, hs.2.1, hs⟩ h1 h2)
theorem jl_if_eq {x : Int32} {off : Int} {tgt : Nat} (hd : decode M.2.1 pc = .ok (.ifCond .eq off, 3)) (ht : (pc : Int) + off = (tgt : Int)) (kt : x = 0 → jl_AW l G F M d tgt L st n h ck sk) (kf : ¬ (x = 0) → jl_AW l G F M d (pc + 3) L st n h ck sk) : jl_AW l G F M d pc L (.int x :: st) n h ck sk := by
  intro p e R s m args below meth c al0 n0 mc ms al H locs ls cells slots C hR hE hl hs h1 h2
  exact lv_if_eq C.1.1 C.1.2.1 hd ht (fun q => kt q p e R s m args below meth c al0 n0 mc ms al H locs ls cells slots C hR hE hl hs.2 h1 h2) (fun q => kf q p e R s m args below meth c al0 n0 mc ms al H locs ls cells slots C hR hE hl hs.2 h1 h2)
theorem jl_icmp_eq {x y : Int32} {off : Int} {tgt : Nat} (hd : decode M.2.1 pc = .ok (.if_icmp .eq off, 3)) (ht : (pc : Int) + off = (tgt : Int)) (kt : x = y → jl_AW l G F M d tgt L st n h ck sk) (kf : ¬ (x = y) → jl_AW l G F M d (pc + 3) L st n h ck sk) : jl_AW l G F M d pc L (.int y :: .int x :: st) n h ck sk := by
  intro p e R s m args below meth c al0 n0 mc ms al H locs ls cells slots C hR hE hl hs h1 h2
  exact lv_icmp_eq C.1.1 C.1.2.1 hd ht (fun q => kt q p e R s m args below meth c al0 n0 mc ms al H locs ls cells slots C hR hE hl hs.2.2 h1 h2) (fun q => kf q p e R s m args below meth c al0 n0 mc ms al H locs ls cells slots C hR hE hl hs.2.2 h1 h2)
theorem jl_if_ne {x : Int32} {off : Int} {tgt : Nat} (hd : decode M.2.1 pc = .ok (.ifCond .ne off, 3)) (ht : (pc : Int) + off = (tgt : Int)) (kt : ¬ x = 0 → jl_AW l G F M d tgt L st n h ck sk) (kf : x = 0 → jl_AW l G F M d (pc + 3) L st n h ck sk) : jl_AW l G F M d pc L (.int x :: st) n h ck sk := by
  intro p e R s m args below meth c al0 n0 mc ms al H locs ls cells slots C hR hE hl hs h1 h2
  exact lv_if_ne C.1.1 C.1.2.1 hd ht (fun q => kt q p e R s m args below meth c al0 n0 mc ms al H locs ls cells slots C hR hE hl hs.2 h1 h2) (fun q => kf q p e R s m args below meth c al0 n0 mc ms al H locs ls cells slots C hR hE hl hs.2 h1 h2)
theorem jl_icmp_ne {x y : Int32} {off : Int} {tgt : Nat} (hd : decode M.2.1 pc = .ok (.if_icmp .ne off, 3)) (ht : (pc : Int) + off = (tgt : Int)) (kt : ¬ x = y → jl_AW l G F M d tgt L st n h ck sk) (kf : x = y → jl_AW l G F M d (pc + 3) L st n h ck sk) : jl_AW l G F M d pc L (.int y :: .int x :: st) n h ck sk := by
  intro p e R s m args below meth c al0 n0 mc ms al H locs ls cells slots C hR hE hl hs h1 h2
  exact lv_icmp_ne C.1.1 C.1.2.1 hd ht (fun q => kt q p e R s m args below meth c al0 n0 mc ms al H locs ls cells slots C hR hE hl hs.2.2 h1 h2) (fun q => kf q p e R s m args below meth c al0 n0 mc ms al H locs ls cells slots C hR hE hl hs.2.2 h1 h2)
theorem jl_if_lt {x : Int32} {off : Int} {tgt : Nat} (hd : decode M.2.1 pc = .ok (.ifCond .lt off, 3)) (ht : (pc : Int) + off = (tgt : Int)) (kt : x < 0 → jl_AW l G F M d tgt L st n h ck sk) (kf : ¬ (x < 0) → jl_AW l G F M d (pc + 3) L st n h ck sk) : jl_AW l G F M d pc L (.int x :: st) n h ck sk := by
  intro p e R s m args below meth c al0 n0 mc ms al H locs ls cells slots C hR hE hl hs h1 h2
  exact lv_if_lt C.1.1 C.1.2.1 hd ht (fun q => kt q p e R s m args below meth c al0 n0 mc ms al H locs ls cells slots C hR hE hl hs.2 h1 h2) (fun q => kf q p e R s m args below meth c al0 n0 mc ms al H locs ls cells slots C hR hE hl hs.2 h1 h2)
theorem jl_icmp_lt {x y : Int32} {off : Int} {tgt : Nat} (hd : decode M.2.1 pc = .ok (.if_icmp .lt off, 3)) (ht : (pc : Int) + off = (tgt : Int)) (kt : x < y → jl_AW l G F M d tgt L st n h ck sk) (kf : ¬ (x < y) → jl_AW l G F M d (pc + 3) L st n h ck sk) : jl_AW l G F M d pc L (.int y :: .int x :: st) n h ck sk := by
  intro p e R s m args below meth c al0 n0 mc ms al H locs ls cells slots C hR hE hl hs h1 h2
  exact lv_icmp_lt C.1.1 C.1.2.1 hd ht (fun q => kt q p e R s m args below meth c al0 n0 mc ms al H locs ls cells slots C hR hE hl hs.2.2 h1 h2) (fun q => kf q p e R s m args below meth c al0 n0 mc ms al H locs ls cells slots C hR hE hl hs.2.2 h1 h2)
theorem jl_if_ge {x : Int32} {off : Int} {tgt : Nat} (hd : decode M.2.1 pc = .ok (.ifCond .ge off, 3)) (ht : (pc : Int) + off = (tgt : Int)) (kt : 0 ≤ x → jl_AW l G F M d tgt L st n h ck sk) (kf : ¬ (0 ≤ x) → jl_AW l G F M d (pc + 3) L st n h ck sk) : jl_AW l G F M d pc L (.int x :: st) n h ck sk := by
  intro p e R s m args below meth c al0 n0 mc ms al H locs ls cells slots C hR hE hl hs h1 h2
  exact lv_if_ge C.1.1 C.1.2.1 hd ht (fun q => kt q p e R s m args below meth c al0 n0 mc ms al H locs ls cells slots C hR hE hl hs.2 h1 h2) (fun q => kf q p e R s m args below meth c al0 n0 mc ms al H locs ls cells slots C hR hE hl hs.2 h1 h2)
theorem jl_icmp_ge {x y : Int32} {off : Int} {tgt : Nat} (hd : decode M.2.1 pc = .ok (.if_icmp .ge off, 3)) (ht : (pc : Int) + off = (tgt : Int)) (kt : y ≤ x → jl_AW l G F M d tgt L st n h ck sk) (kf : ¬ (y ≤ x) → jl_AW l G F M d (pc + 3) L st n h ck sk) : jl_AW l G F M d pc L (.int y :: .int x :: st) n h ck sk := by
  intro p e R s m args below meth c al0 n0 mc ms al H locs ls cells slots C hR hE hl hs h1 h2
  exact lv_icmp_ge C.1.1 C.1.2.1 hd ht (fun q => kt q p e R s m args below meth c al0 n0 mc ms al H locs ls cells slots C hR hE hl hs.2.2 h1 h2) (fun q => kf q p e R s m args below meth c al0 n0 mc ms al H locs ls cells slots C hR hE hl hs.2.2 h1 h2)
theorem jl_if_gt {x : Int32} {off : Int} {tgt : Nat} (hd : decode M.2.1 pc = .ok (.ifCond .gt off, 3)) (ht : (pc : Int) + off = (tgt : Int)) (kt : 0 < x → jl_AW l G F M d tgt L st n h ck sk) (kf : ¬ (0 < x) → jl_AW l G F M d (pc + 3) L st n h ck sk) : jl_AW l G F M d pc L (.int x :: st) n h ck sk := by
  intro p e R s m args below meth c al0 n0 mc ms al H locs ls cells slots C hR hE hl hs h1 h2
  exact lv_if_gt C.1.1 C.1.2.1 hd ht (fun q => kt q p e R s m args below meth c al0 n0 mc ms al H locs ls cells slots C hR hE hl hs.2 h1 h2) (fun q => kf q p e R s m args below meth c al0 n0 mc ms al H locs ls cells slots C hR hE hl hs.2 h1 h2)
theorem jl_icmp_gt {x y : Int32} {off : Int} {tgt : Nat} (hd : decode M.2.1 pc = .ok (.if_icmp .gt off, 3)) (ht : (pc : Int) + off = (tgt : Int)) (kt : y < x → jl_AW l G F M d tgt L st n h ck sk) (kf : ¬ (y < x) → jl_AW l G F M d (pc + 3) L st n h ck sk) : jl_AW l G F M d pc L (.int y :: .int x :: st) n h ck sk := by
  intro p e R s m args below meth c al0 n0 mc ms al H locs ls cells slots C hR hE hl hs h1 h2
  exact lv_icmp_gt C.1.1 C.1.2.1 hd ht (fun q => kt q p e R s m args below meth c al0 n0 mc ms al H locs ls cells slots C hR hE hl hs.2.2 h1 h2) (fun q => kf q p e R s m args below meth c al0 n0 mc ms al H locs ls cells slots C hR hE hl hs.2.2 h1 h2)
theorem jl_if_le {x : Int32} {off : Int} {tgt : Nat} (hd : decode M.2.1 pc = .ok (.ifCond .le off, 3)) (ht : (pc : Int) + off = (tgt : Int)) (kt : x ≤ 0 → jl_AW l G F M d tgt L st n h ck sk) (kf : ¬ (x ≤ 0) → jl_AW l G F M d (pc + 3) L st n h ck sk) : jl_AW l G F M d pc L (.int x :: st) n h ck sk := by
  intro p e R s m args below meth c al0 n0 mc ms al H locs ls cells slots C hR hE hl hs h1 h2
  exact lv_if_le C.1.1 C.1.2.1 hd ht (fun q => kt q p e R s m args below meth c al0 n0 mc ms al H locs ls cells slots C hR hE hl hs.2 h1 h2) (fun q => kf q p e R s m args below meth c al0 n0 mc ms al H locs ls cells slots C hR hE hl hs.2 h1 h2)
theorem jl_icmp_le {x y : Int32} {off : Int} {tgt : Nat} (hd : decode M.2.1 pc = .ok (.if_icmp .le off, 3)) (ht : (pc : Int) + off = (tgt : Int)) (kt : x ≤ y → jl_AW l G F M d tgt L st n h ck sk) (kf : ¬ (x ≤ y) → jl_AW l G F M d (pc + 3) L st n h ck sk) : jl_AW l G F M d pc L (.int y :: .int x :: st) n h ck sk := by
  intro p e R s m args below meth c al0 n0 mc ms al H locs ls cells slots C hR hE hl hs h1 h2
  exact lv_icmp_le C.1.1 C.1.2.1 hd ht (fun q => kt q p e R s m args below meth c al0 n0 mc ms al H locs ls cells slots C hR hE hl hs.2.2 h1 h2) (fun q => kf q p e R s m args below meth c al0 n0 mc ms al H locs ls cells slots C hR hE hl hs.2.2 h1 h2)
theorem jl_goto {off : Int} {tgt : Nat} (hd : decode M.2.1 pc = .ok (.goto off, 3)) (ht : (pc : Int) + off = (tgt : Int)) (k : jl_AW l G F M d tgt L (st) n h ck sk) : jl_AW l G F M d pc L (st) n h ck sk := by
  intro p e R s m args below meth c al0 n0 mc ms al H locs ls cells slots C hR hE hl hs h1 h2
  exact lv_goto C.1.1 C.1.2.1 hd ht (k p e R s m args below meth c al0 n0 mc ms al H locs ls cells slots C hR hE hl hs h1 h2)
theorem jl_nonnull {x : Nat} {off : Int} {tgt : Nat} (hd : decode M.2.1 pc = .ok (.ifnonnull off, 3)) (ht : (pc : Int) + off = (tgt : Int)) (k : jl_AW l G F M d tgt L (st) n h ck sk) : jl_AW l G F M d pc L (.ref x :: st) n h ck sk := by
  intro p e R s m args below meth c al0 n0 mc ms al H locs ls cells slots C hR hE hl hs h1 h2
  exact lv_ifnonnull C.1.1 C.1.2.1 hd ht (k p e R s m args below meth c al0 n0 mc ms al H locs ls cells slots C hR hE hl hs.2 h1 h2)
theorem jl_nonnullN {off : Int} (hd : decode M.2.1 pc = .ok (.ifnonnull off, 3)) (k : jl_AW l G F M d (pc + 3) L (st) n h ck sk) : jl_AW l G F M d pc L (.null :: st) n h ck sk := by
  intro p e R s m args below meth c al0 n0 mc ms al H locs ls cells slots C hR hE hl hs h1 h2
  exact lv_ifnonnullN C.1.1 C.1.2.1 hd (k p e R s m args below meth c al0 n0 mc ms al H locs ls cells slots C hR hE hl hs.2 h1 h2)
theorem jl_ifnull {x : Nat} {off : Int} (hd : decode M.2.1 pc = .ok (.ifnull off, 3)) (k : jl_AW l G F M d (pc + 3) L (st) n h ck sk) : jl_AW l G F M d pc L (.ref x :: st) n h ck sk := by
  intro p e R s m args below meth c al0 n0 mc ms al H locs ls cells slots C hR hE hl hs h1 h2
  exact lv_ifnull C.1.1 C.1.2.1 hd (k p e R s m args below meth c al0 n0 mc ms al H locs ls cells slots C hR hE hl hs.2 h1 h2)
theorem jl_ifnullN {off : Int} {tgt : Nat} (hd : decode M.2.1 pc = .ok (.ifnull off, 3)) (ht : (pc : Int) + off = (tgt : Int)) (k : jl_AW l G F M d tgt L (st) n h ck sk) : jl_AW l G F M d pc L (.null :: st) n h ck sk := by
  intro p e R s m args below meth c al0 n0 mc ms al H locs ls cells slots C hR hE hl hs h1 h2
  exact lv_ifnullN C.1.1 C.1.2.1 hd ht (k p e R s m args below meth c al0 n0 mc ms al H locs ls cells slots C hR hE hl hs.2 h1 h2)
theorem jl_tableOut {df lo hi : Int} {offs : Array Int} {len : Nat} {x : Int32} {tgt : Nat} (hd : decode M.2.1 pc = .ok (.tableswitch df lo hi offs, len)) (hx : x.toInt < lo ∨ hi < x.toInt) (ht : (pc : Int) + df = (tgt : Int)) (k : jl_AW l G F M d tgt L (st) n h ck sk) : jl_AW l G F M d pc L (.int x :: st) n h ck sk := by
  intro p e R s m args below meth c al0 n0 mc ms al H locs ls cells slots C hR hE hl hs h1 h2
  exact lv_tableOut C.1.1 C.1.2.1 hd hx ht (k p e R s m args below meth c al0 n0 mc ms al H locs ls cells slots C hR hE hl hs.2 h1 h2)
theorem jl_tableIn {df lo hi : Int} {offs : Array Int} {len : Nat} {x : Int32} {off : Int} {tgt : Nat} (hd : decode M.2.1 pc = .ok (.tableswitch df lo hi offs, len)) (hx : ¬ x.toInt < lo) (hy : ¬ hi < x.toInt) (ho : offs[(x.toInt - lo).toNat]? = some off) (ht : (pc : Int) + off = (tgt : Int)) (k : jl_AW l G F M d tgt L (st) n h ck sk) : jl_AW l G F M d pc L (.int x :: st) n h ck sk := by
  intro p e R s m args below meth c al0 n0 mc ms al H locs ls cells slots C hR hE hl hs h1 h2
  exact lv_tableIn C.1.1 C.1.2.1 hd hx hy ho ht (k p e R s m args below meth c al0 n0 mc ms al H locs ls cells slots C hR hE hl hs.2 h1 h2)
theorem jl_fv {sb ci q : Nat} {fs : List Value} {v : Value} {al : Nat → Nat} (hv : fs[q]? = some v) : (fs.map (jl_v sb al))[q]? = some (jl_v sb al v) := by rw [List.getElem?_map, hv]; rfl
theorem jl_hin {x : Nat} {st : List Value} (hs : jl_oks n (.ref x :: st)) : x < n := hs.1
theorem jl_obj {al : Nat → Nat} {x ci : Nat} {fs : List Value} (hx : x < n) (he : h x = jO ci fs) : (jl_W G al n h)[x]? = some (al x, .inr (ci, fs.map (jl_v G.2.2.1 al))) := by rw [jl_w_get hx, he]; rfl
theorem jl_arr {al : Nat → Nat} {x t k : Nat} {z : jl_S} (hx : x < n) (he : h x = .inl (t, k, z)) : (jl_W G al n h)[x]? = some (al x, .inl (G.2.1 t, k, jl_x al z)) := by rw [jl_w_get hx, he]; rfl
theorem jl_ty {t : Nat} {ty : FieldType} (ht : jl_tyl[t]? = some ty) : (jl_tys G)[t]? = some (G.2.1 t, ty) := by unfold jl_tys; rw [List.getElem?_mapIdx, ht]; rfl
theorem jl_get {x ci q ix N : Nat} {Cn : String} {T : u_T} {fs : List Value} {v : Value} (hd : decode M.2.1 pc = .ok (.getfield ix, 3)) (he : h x = jO ci fs) (hv : fs[q]? = some v) (hc : vwCl[ci]? = some (Cn, T, N)) (hin : ∀ w ∈ u_ws Cn T N, w ∈ jl_T) (hq : q < N) (hw : Cond.fieldLink M.1.cls ix (T q).1 (T q).2.1 (T q).2.2.1 ∈ jl_T) (k : jl_AW l G F M d (pc + 3) L (v :: st) n h ck sk) : jl_AW l G F M d pc L (.ref x :: st) n h ck sk := by
  intro p e R s m args below meth c al0 n0 mc ms al H locs ls cells slots C hR hE hl hs h1 h2
  have hx : x < n := hs.1
  have ho : jl_okv n v := by
    have h9 := hR.2.2.2 x hx
    rw [he] at h9
    exact h9 v (List.mem_of_getElem? hv)
  exact va_get (C := Cn) (T := T) (N := N) C.1.1 C.1.2.1 C.1.2.2.2.2 hin C.1.2.2.2.1 C.2.2.2.2.2.2.1.1 hR.1 x (jl_obj hx he) hc q hq (C.1.2.2.2.2 _ hw) (fun _ h9 => h9) (jl_fv (ci := ci) hv) hd (k p e R s m args below meth c al0 n0 mc ms al H locs ls cells slots C hR hE hl ⟨ho, hs.2⟩ h1 h2)
theorem jl_getN {x ci q ix N : Nat} {Cn : String} {T : u_T} {host : String} {fs : List Value} {v : Value} (hd : decode M.2.1 pc = .ok (.getfield ix, 3)) (he : h x = jO ci fs) (hv : fs[q]? = some v) (hc : vwCl[ci]? = some (Cn, T, N)) (hin : ∀ w ∈ u_ws Cn T N, w ∈ jl_T) (hq : q < N) (hw : Cond.fieldLinkNest M.1.cls ix (T q).1 (T q).2.1 (T q).2.2.1 host ∈ jl_N) (k : jl_AW l G F M d (pc + 3) L (v :: st) n h ck sk) : jl_AW l G F M d pc L (.ref x :: st) n h ck sk := by
  intro p e R s m args below meth c al0 n0 mc ms al H locs ls cells slots C hR hE hl hs h1 h2
  have hx : x < n := hs.1
  have ho : jl_okv n v := by
    have h9 := hR.2.2.2 x hx
    rw [he] at h9
    exact h9 v (List.mem_of_getElem? hv)
  exact va_getN (C := Cn) (T := T) (N := N) C.1.1 C.1.2.1 C.1.2.2.2.2 hin C.1.2.2.2.1 C.2.2.2.2.2.2.1.1 hR.1 x (jl_obj hx he) hc q hq (va_Nw.use rfl (C.2.2.2.2.2.2.1.2.1 _ hw)) (fun _ h9 => h9) (jl_fv (ci := ci) hv) hd (k p e R s m args below meth c al0 n0 mc ms al H locs ls cells slots C hR hE hl ⟨ho, hs.2⟩ h1 h2)
theorem jl_R.set {al : Nat → Nat} {s : State} {H H1 : Heap} {locs locs1 : List Loc} {x : Nat} {e : va_E} (hR : jl_R G n h al s H locs) (hx : x < n) (ho : jl_oke n e)
    (hP : va_P G.1 vwCl ((jl_W G al n h).set x (al x, jl_e G.2.1 G.2.2.1 al e)) H1) (hD : va_D (jl_A G) ((jl_W G al n h).set x (al x, jl_e G.2.1 G.2.2.1 al e))) (hS : va_S (jl_A G) s.heap H1 locs1) : jl_R G n (va_up h x e) al s H1 locs1 := by
  rw [jl_w_set hx] at hP hD
  refine ⟨hP, hD, hS, fun i hi => ?_⟩
  by_cases e1 : i = x
  · subst e1
    rw [va_up_self]
    exact ho
  · rw [va_up_ne _ _ e1]
    exact hR.2.2.2 i hi
theorem jl_put {x ci q ix N : Nat} {Cn : String} {T : u_T} {fs : List Value} {v : Value} {ty0 : Nat → FieldType} {ty : FieldType} (hd : decode M.2.1 pc = .ok (.putfield ix, 3)) (he : h x = jO ci fs) (hl9 : q < fs.length) (hc : vwCl[ci]? = some (Cn, T, N)) (hin : ∀ w ∈ u_ws Cn T N, w ∈ jl_T) (hty : ∀ k, k < N → parseFieldDescriptor (T k).2.2.1 = some (ty0 k)) (hnm : ∀ a, a < N → ∀ b, b < N → a ≠ b → (T a).2.1 ≠ (T b).2.1) (hq : q < N) (hw : Cond.fieldLink M.1.cls ix (T q).1 (T q).2.1 (T q).2.2.1 ∈ jl_T) (hfin : (T q).2.2.2 = false) (hdt : parseFieldDescriptor (T q).2.2.1 = some ty) (hna : ∀ sb al, narrow ty (jl_v sb al v) = jl_v sb al v) (hfi : ∀ sb al, fits ty (jl_v sb al v) = true) (k : jl_AW l G F M d (pc + 3) L st n (va_up h x (jO ci (fs.set q v))) ck sk) : jl_AW l G F M d pc L (v :: .ref x :: st) n h ck sk := by
  intro p e R s m args below meth c al0 n0 mc ms al H locs ls cells slots C hR hE hl hs h1 h2
  have hx : x < n := hs.2.1
  have ho : jl_oke n (jO ci (fs.set q v)) := by
    intro u hu
    have h9 := hR.2.2.2 x hx
    rw [he] at h9
    rcases List.mem_or_eq_of_mem_set hu with h8 | h8
    · exact h9 u h8
    · rw [h8]; exact hs.1
  exact va_put (C := Cn) (T := T) (N := N) C.1.1 C.1.2.1 C.1.2.2.2.2 hin ty0 hty hnm C.1.2.2.2.1 C.2.2.2.2.2.2.1.1 hR.1 hR.2.1 hR.2.2.1 x (jl_obj hx he) hc q hq (C.1.2.2.2.2 _ hw) (fun _ h9 => h9) hfin hdt (hna _ _) (hfi _ _) (by rw [List.length_map]; exact hl9) hd (fun H1 locs1 hP hD hS => k p e R s m args below meth c al0 n0 mc ms al H1 locs1 ls cells slots C (hR.set hx ho (by rw [← List.map_set] at hP; exact hP) (by rw [← List.map_set] at hD; exact hD) hS) hE hl hs.2.2 h1 h2)
theorem jl_putN {x ci q ix N : Nat} {Cn : String} {T : u_T} {host : String} {fs : List Value} {v : Value} {ty0 : Nat → FieldType} {ty : FieldType} (hd : decode M.2.1 pc = .ok (.putfield ix, 3)) (he : h x = jO ci fs) (hl9 : q < fs.length) (hc : vwCl[ci]? = some (Cn, T, N)) (hin : ∀ w ∈ u_ws Cn T N, w ∈ jl_T) (hty : ∀ k, k < N → parseFieldDescriptor (T k).2.2.1 = some (ty0 k)) (hnm : ∀ a, a < N → ∀ b, b < N → a ≠ b → (T a).2.1 ≠ (T b).2.1) (hq : q < N) (hw : Cond.fieldLinkNest M.1.cls ix (T q).1 (T q).2.1 (T q).2.2.1 host ∈ jl_N) (hfin : (T q).2.2.2 = false) (hdt : parseFieldDescriptor (T q).2.2.1 = some ty) (hna : ∀ sb al, narrow ty (jl_v sb al v) = jl_v sb al v) (hfi : ∀ sb al, fits ty (jl_v sb al v) = true) (k : jl_AW l G F M d (pc + 3) L st n (va_up h x (jO ci (fs.set q v))) ck sk) : jl_AW l G F M d pc L (v :: .ref x :: st) n h ck sk := by
  intro p e R s m args below meth c al0 n0 mc ms al H locs ls cells slots C hR hE hl hs h1 h2
  have hx : x < n := hs.2.1
  have ho : jl_oke n (jO ci (fs.set q v)) := by
    intro u hu
    have h9 := hR.2.2.2 x hx
    rw [he] at h9
    rcases List.mem_or_eq_of_mem_set hu with h8 | h8
    · exact h9 u h8
    · rw [h8]; exact hs.1
  exact va_putN (C := Cn) (T := T) (N := N) C.1.1 C.1.2.1 C.1.2.2.2.2 hin ty0 hty hnm C.1.2.2.2.1 C.2.2.2.2.2.2.1.1 hR.1 hR.2.1 hR.2.2.1 x (jl_obj hx he) hc q hq (va_Nw.use rfl (C.2.2.2.2.2.2.1.2.1 _ hw)) (fun _ h9 => h9) hfin hdt (hna _ _) (hfi _ _) (by rw [List.length_map]; exact hl9) hd (fun H1 locs1 hP hD hS => k p e R s m args below meth c al0 n0 mc ms al H1 locs1 ls cells slots C (hR.set hx ho (by rw [← List.map_set] at hP; exact hP) (by rw [← List.map_set] at hD; exact hD) hS) hE hl hs.2.2 h1 h2)
theorem jl_putF {x ci q ix N : Nat} {Cn : String} {T : u_T} {fs : List Value} {v : Value} {ty0 : Nat → FieldType} {ty : FieldType} (hd : decode M.2.1 pc = .ok (.putfield ix, 3)) (he : h x = jO ci fs) (hl9 : q < fs.length) (hc : vwCl[ci]? = some (Cn, T, N)) (hin : ∀ w ∈ u_ws Cn T N, w ∈ jl_T) (hty : ∀ k, k < N → parseFieldDescriptor (T k).2.2.1 = some (ty0 k)) (hnm : ∀ a, a < N → ∀ b, b < N → a ≠ b → (T a).2.1 ≠ (T b).2.1) (hq : q < N) (hw : Cond.fieldLink M.1.cls ix (T q).1 (T q).2.1 (T q).2.2.1 ∈ jl_T) (hfin : (T q).2.2.2 = true) (hi : M.1.name = "<init>") (hdc : (T q).1 = M.1.cls) (hdt : parseFieldDescriptor (T q).2.2.1 = some ty) (hna : ∀ sb al, narrow ty (jl_v sb al v) = jl_v sb al v) (hfi : ∀ sb al, fits ty (jl_v sb al v) = true) (k : jl_AW l G F M d (pc + 3) L st n (va_up h x (jO ci (fs.set q v))) ck sk) : jl_AW l G F M d pc L (v :: .ref x :: st) n h ck sk := by
  intro p e R s m args below meth c al0 n0 mc ms al H locs ls cells slots C hR hE hl hs h1 h2
  have hx : x < n := hs.2.1
  have ho : jl_oke n (jO ci (fs.set q v)) := by
    intro u hu
    have h9 := hR.2.2.2 x hx
    rw [he] at h9
    rcases List.mem_or_eq_of_mem_set hu with h8 | h8
    · exact h9 u h8
    · rw [h8]; exact hs.1
  exact va_putF (C := Cn) (T := T) (N := N) C.1.1 C.1.2.1 C.1.2.2.2.2 hin ty0 hty hnm C.1.2.2.2.1 C.2.2.2.2.2.2.1.1 hR.1 hR.2.1 hR.2.2.1 x (jl_obj hx he) hc q hq (C.1.2.2.2.2 _ hw) (fun _ h9 => h9) hfin (C.2.2.2.1.trans hi) hdc hdt (hna _ _) (hfi _ _) (by rw [List.length_map]; exact hl9) hd (fun H1 locs1 hP hD hS => k p e R s m args below meth c al0 n0 mc ms al H1 locs1 ls cells slots C (hR.set hx ho (by rw [← List.map_set] at hP; exact hP) (by rw [← List.map_set] at hD; exact hD) hS) hE hl hs.2.2 h1 h2)
theorem jl_iald {x k9 : Nat} {f : Nat → Int32} {i : Int32} (hd : decode M.2.1 pc = .ok (.iaload, 1)) (he : h x = jI k9 f) (hi : vp_in i k9) (k : jl_AW l G F M d (pc + 1) L (.int (f i.toNatClampNeg) :: st) n h ck sk) : jl_AW l G F M d pc L (.int i :: .ref x :: st) n h ck sk := by
  intro p e R s m args below meth c al0 n0 mc ms al H locs ls cells slots C hR hE hl hs h1 h2
  exact va_iald C.1.1 C.1.2.1 C.2.2.2.2.2.2.1.1 hR.1 x 0 (jl_arr hs.2.1 he) (jl_ty rfl) hi hd (k p e R s m args below meth c al0 n0 mc ms al H locs ls cells slots C hR hE hl ⟨trivial, hs.2.2⟩ h1 h2)
theorem jl_lald {x k9 : Nat} {f : Nat → Int64} {i : Int32} (hd : decode M.2.1 pc = .ok (.laload, 1)) (he : h x = jJ k9 f) (hi : vp_in i k9) (k : jl_AW l G F M d (pc + 1) L (.long (f i.toNatClampNeg) :: st) n h ck sk) : jl_AW l G F M d pc L (.int i :: .ref x :: st) n h ck sk := by
  intro p e R s m args below meth c al0 n0 mc ms al H locs ls cells slots C hR hE hl hs h1 h2
  exact va_lald C.1.1 C.1.2.1 C.2.2.2.2.2.2.1.1 hR.1 x 1 (jl_arr hs.2.1 he) (jl_ty rfl) hi hd (k p e R s m args below meth c al0 n0 mc ms al H locs ls cells slots C hR hE hl ⟨trivial, hs.2.2⟩ h1 h2)
theorem jl_alen {x t k9 : Nat} {z : jl_S} {ty : FieldType} {v : Int32} (hd : decode M.2.1 pc = .ok (.arraylength, 1)) (he : h x = .inl (t, k9, z)) (ht : jl_tyl[t]? = some ty) (hv : Int32.ofNat k9 = v) (k : jl_AW l G F M d (pc + 1) L (.int v :: st) n h ck sk) : jl_AW l G F M d pc L (.ref x :: st) n h ck sk := by
  intro p e R s m args below meth c al0 n0 mc ms al H locs ls cells slots C hR hE hl hs h1 h2
  exact va_alen C.1.1 C.1.2.1 C.2.2.2.2.2.2.1.1 hR.1 x t (jl_arr hs.1 he) (jl_ty ht) hv hd (k p e R s m args below meth c al0 n0 mc ms al H locs ls cells slots C hR hE hl ⟨trivial, hs.2⟩ h1 h2)
theorem jl_iast {x k9 : Nat} {f : Nat → Int32} {i v : Int32} (hd : decode M.2.1 pc = .ok (.iastore, 1)) (he : h x = jI k9 f) (hi : vp_in i k9) (k : jl_AW l G F M d (pc + 1) L st n (va_up h x (jI k9 (upd f i.toNatClampNeg v))) ck sk) : jl_AW l G F M d pc L (.int v :: .int i :: .ref x :: st) n h ck sk := by
  intro p e R s m args below meth c al0 n0 mc ms al H locs ls cells slots C hR hE hl hs h1 h2
  have hx : x < n := hs.2.2.1
  exact va_iast C.1.1 C.1.2.1 C.2.2.2.2.2.2.1.1 hR.1 hR.2.1 hR.2.2.1 x 0 (jl_arr hx he) (jl_ty rfl) hi hd (fun H1 locs1 hP hD hS => k p e R s m args below meth c al0 n0 mc ms al H1 locs1 ls cells slots C (hR.set (e := jI k9 (upd f i.toNatClampNeg v)) hx (fun g hg => by cases hg) hP hD hS) hE hl hs.2.2.2 h1 h2)
theorem jl_last {x k9 : Nat} {f : Nat → Int64} {i : Int32} {v : Int64} (hd : decode M.2.1 pc = .ok (.lastore, 1)) (he : h x = jJ k9 f) (hi : vp_in i k9) (k : jl_AW l G F M d (pc + 1) L st n (va_up h x (jJ k9 (vp_updL f i.toNatClampNeg v))) ck sk) : jl_AW l G F M d pc L (.long v :: .int i :: .ref x :: st) n h ck sk := by
  intro p e R s m args below meth c al0 n0 mc ms al H locs ls cells slots C hR hE hl hs h1 h2
  have hx : x < n := hs.2.2.1
  exact va_last C.1.1 C.1.2.1 C.2.2.2.2.2.2.1.1 hR.1 hR.2.1 hR.2.2.1 x 1 (jl_arr hx he) (jl_ty rfl) hi hd (fun H1 locs1 hP hD hS => k p e R s m args below meth c al0 n0 mc ms al H1 locs1 ls cells slots C (hR.set (e := jJ k9 (vp_updL f i.toNatClampNeg v)) hx (fun g hg => by cases hg) hP hD hS) hE hl hs.2.2.2 h1 h2)
theorem jl_zald {x k9 : Nat} {f : Nat → Int32} {i : Int32} (hd : decode M.2.1 pc = .ok (.baload, 1)) (he : h x = .inl (3, k9, .inl f)) (hi : vp_in i k9) (k : jl_AW l G F M d (pc + 1) L (.int (f i.toNatClampNeg) :: st) n h ck sk) : jl_AW l G F M d pc L (.int i :: .ref x :: st) n h ck sk := by
  intro p e R s m args below meth c al0 n0 mc ms al H locs ls cells slots C hR hE hl hs h1 h2
  exact va_zald C.1.1 C.1.2.1 C.2.2.2.2.2.2.1.1 hR.1 x 3 (jl_arr hs.2.1 he) (jl_ty rfl) hi hd (k p e R s m args below meth c al0 n0 mc ms al H locs ls cells slots C hR hE hl ⟨trivial, hs.2.2⟩ h1 h2)
theorem jl_zast {x k9 : Nat} {f : Nat → Int32} {i v : Int32} (hd : decode M.2.1 pc = .ok (.bastore, 1)) (he : h x = .inl (3, k9, .inl f)) (hi : vp_in i k9) (k : jl_AW l G F M d (pc + 1) L st n (va_up h x (.inl (3, k9, .inl (upd f i.toNatClampNeg (vp_nar .boolean v))))) ck sk) : jl_AW l G F M d pc L (.int v :: .int i :: .ref x :: st) n h ck sk := by
  intro p e R s m args below meth c al0 n0 mc ms al H locs ls cells slots C hR hE hl hs h1 h2
  have hx : x < n := hs.2.2.1
  exact va_zast C.1.1 C.1.2.1 C.2.2.2.2.2.2.1.1 hR.1 hR.2.1 hR.2.2.1 x 3 (jl_arr hx he) (jl_ty rfl) hi hd (fun H1 locs1 hP hD hS => k p e R s m args below meth c al0 n0 mc ms al H1 locs1 ls cells slots C (hR.set (e := .inl (3, k9, .inl (upd f i.toNatClampNeg (vp_nar .boolean v)))) hx (fun g hg => by cases hg) hP hD hS) hE hl hs.2.2.2 h1 h2)
theorem jl_rf (sb : Nat) (al : Nat → Nat) (r : Option Nat) : va_rf (r.map al) = jl_v sb al (va_rf r) := by cases r <;> rfl
theorem jl_aald {x t k9 : Nat} {f : Nat → Option Nat} {i : Int32} {Cn : String} (hd : decode M.2.1 pc = .ok (.aaload, 1)) (he : h x = jQ t k9 f) (ht : jl_tyl[t]? = some (.object Cn)) (hi : vp_in i k9) (k : jl_AW l G F M d (pc + 1) L (va_rf (f i.toNatClampNeg) :: st) n h ck sk) : jl_AW l G F M d pc L (.int i :: .ref x :: st) n h ck sk := by
  intro p e R s m args below meth c al0 n0 mc ms al H locs ls cells slots C hR hE hl hs h1 h2
  have hx : x < n := hs.2.1
  have ho : jl_okv n (va_rf (f i.toNatClampNeg)) := by
    have h9 := hR.2.2.2 x hx
    rw [he] at h9
    cases hf : f i.toNatClampNeg with
    | none => exact trivial
    | some j => exact h9 f rfl _ j hf
  refine va_aldq C.1.1 C.1.2.1 C.2.2.2.2.2.2.1.1 hR.1 x t (jl_arr hx he) (jl_ty ht) hi hd ?_
  have h9 := k p e R s m args below meth c al0 n0 mc ms al H locs ls cells slots C hR hE hl ⟨ho, hs.2.2⟩ h1 h2
  rw [List.map_cons, ← jl_rf] at h9
  exact h9
theorem jl_aast {x t k9 y ci N : Nat} {f : Nat → Option Nat} {i : Int32} {Cn : String} {T : u_T} {fs : List Value} (hd : decode M.2.1 pc = .ok (.aastore, 1)) (he : h x = jQ t k9 f) (ht : jl_tyl[t]? = some (.object Cn)) (hy : h y = jO ci fs) (hc : vwCl[ci]? = some (Cn, T, N)) (hi : vp_in i k9) (k : jl_AW l G F M d (pc + 1) L st n (va_up h x (jQ t k9 (va_up f i.toNatClampNeg (some y)))) ck sk) : jl_AW l G F M d pc L (.ref y :: .int i :: .ref x :: st) n h ck sk := by
  intro p e R s m args below meth c al0 n0 mc ms al H locs ls cells slots C hR hE hl hs h1 h2
  have hx : x < n := hs.2.2.1
  have hyn : y < n := hs.1
  have ho : jl_oke n (jQ t k9 (va_up f i.toNatClampNeg (some y))) := by
    intro g hg j z hz
    cases hg
    have h9 := hR.2.2.2 x hx
    rw [he] at h9
    by_cases e1 : j = i.toNatClampNeg
    · rw [e1, va_up_self] at hz
      cases hz
      exact hyn
    · rw [va_up_ne _ _ e1] at hz
      exact h9 f rfl j z hz
  have hup : (fun j => (va_up f i.toNatClampNeg (some y) j).map al) = va_up (fun j => (f j).map al) i.toNatClampNeg (some (al y)) := by
    funext j
    by_cases e1 : j = i.toNatClampNeg
    · rw [e1, va_up_self, va_up_self]; rfl
    · rw [va_up_ne _ _ e1, va_up_ne _ _ e1]
  refine va_astq C.1.1 C.1.2.1 C.2.2.2.2.2.2.1.1 hR.1 hR.2.1 hR.2.2.1 x t y ci (r := (Cn, T, N)) (jl_arr hx he) (jl_ty ht) (jl_obj hyn hy) hc hi hd (fun H1 locs1 hP hD hS => ?_)
  rw [← hup] at hP hD
  exact k p e R s m args below meth c al0 n0 mc ms al H1 locs1 ls cells slots C (hR.set (e := jQ t k9 (va_up f i.toNatClampNeg (some y))) hx ho hP hD hS) hE hl hs.2.2.2 h1 h2
theorem jl_sld {z : UInt32} {i : Int32} (hd : decode M.2.1 pc = .ok (.iaload, 1)) (hi : vp_in i G.2.2.2.2.1) (k : jl_AW l G F M d (pc + 1) L (.int (G.2.2.2.2.2 i.toNatClampNeg) :: st) n h ck sk) : jl_AW l G F M d pc L (.int i :: .float z :: st) n h ck sk := by
  intro p e R s m args below meth c al0 n0 mc ms al H locs ls cells slots C hR hE hl hs h1 h2
  obtain ⟨-, -, -, -, hX, hlt, hle⟩ := C.2.2.2.2.2.2.1
  exact va_sld C.1.1 C.1.2.1 hX (Nat.lt_of_lt_of_le hlt hle) (Nat.not_le.mpr hlt) hR.2.2.1 hi hd (k p e R s m args below meth c al0 n0 mc ms al H locs ls cells slots C hR hE hl ⟨trivial, hs.2.2⟩ h1 h2)
theorem jl_slen {z : UInt32} (hd : decode M.2.1 pc = .ok (.arraylength, 1)) (k : jl_AW l G F M d (pc + 1) L (.int (Int32.ofNat G.2.2.2.2.1) :: st) n h ck sk) : jl_AW l G F M d pc L (.float z :: st) n h ck sk := by
  intro p e R s m args below meth c al0 n0 mc ms al H locs ls cells slots C hR hE hl hs h1 h2
  obtain ⟨-, -, -, -, hX, hlt, hle⟩ := C.2.2.2.2.2.2.1
  exact va_slen C.1.1 C.1.2.1 hX (Nat.lt_of_lt_of_le hlt hle) (Nat.not_le.mpr hlt) hR.2.2.1 hd (k p e R s m args below meth c al0 n0 mc ms al H locs ls cells slots C hR hE hl ⟨trivial, hs.2⟩ h1 h2)theorem jl_K.tys {s : State} {H : Heap} (hK : jl_K G s H) {t : Nat} {ty : FieldType} (ht : jl_tyl[t]? = some ty) : va_RA s (G.2.1 t) ty := (hK.1.2 t _ (jl_ty ht)).2
theorem jl_RA_u {U : State} {a b : ClassId} {ty : FieldType} (h1 : va_RA U a ty) (h2 : va_RA U b ty) : a = b := by
  cases ty with
  | object C =>
    obtain ⟨-, -, -, -, -, h3⟩ := h1
    obtain ⟨-, -, -, -, -, h4⟩ := h2
    exact Option.some.inj (h3.symm.trans h4)
  | _ => exact Option.some.inj (h1.symm.trans h2)
theorem jl_E.new {n0 q : Nat} {al0 al : Nat → Nat} (hE : jl_E n0 al0 n al) : jl_E n0 al0 (n + 1) (va_up al n q) := ⟨Nat.le_succ_of_le hE.1, fun i hi => by rw [va_up_ne _ _ (Nat.ne_of_lt (Nat.lt_of_lt_of_le hi hE.1))]; exact hE.2 i hi⟩
theorem jl_R.new {al : Nat → Nat} {s : State} {H H1 : Heap} {locs locs1 : List Loc} {q : Nat} {e : va_E} (hR : jl_R G n h al s H locs) (ho : jl_oke n e)
    (hP : va_P G.1 vwCl (jl_W G al n h ++ [(q, jl_e G.2.1 G.2.2.1 (va_up al n q) e)]) H1) (hD : va_D (jl_A G) (jl_W G al n h ++ [(q, jl_e G.2.1 G.2.2.1 (va_up al n q) e)])) (hS : va_S (jl_A G) s.heap H1 locs1) : jl_R G (n + 1) (va_up h n e) (va_up al n q) s H1 locs1 := by
  have e1 := jl_w_new (dA := G.2.1) (sb := G.2.2.1) (q := q) (al := al) hR.2.2.2 e
  unfold jl_W at hP hD
  rw [e1] at hP hD
  refine ⟨hP, hD, hS, fun i hi => ?_⟩
  by_cases e2 : i = n
  · subst e2
    rw [va_up_self]
    exact jl_oke_mono ho (Nat.le_succ _)
  · rw [va_up_ne _ _ e2]
    exact jl_oke_mono (hR.2.2.2 i (by omega)) (Nat.le_succ _)
theorem jl_new {ci ix N : Nat} {Cn : String} {T : u_T} {fs : List Value} {ty0 : Nat → FieldType} (hd : decode M.2.1 pc = .ok (.new ix, 3)) (hc : vwCl[ci]? = some (Cn, T, N)) (hin : ∀ w ∈ u_ws Cn T N, w ∈ jl_T) (hty : ∀ k, k < N → parseFieldDescriptor (T k).2.2.1 = some (ty0 k)) (hfs : ∀ j, j < N → defaultValue (ty0 j) = vp_V fs j) (hsp : ∀ sb al, fs.map (jl_v sb al) = fs) (hok : ∀ v, v ∈ fs → jl_okv 0 v)
    (w1 : Cond.classLink M.1.cls ix Cn ∈ jl_T) (w2 : Cond.instantiable Cn N ∈ jl_T) (w3 : Cond.initialized Cn ∈ jl_T)
    (k : jl_AW l G F M d (pc + 3) L (.ref n :: st) (n + 1) (va_up h n (jO ci fs)) ck sk) : jl_AW l G F M d pc L st n h (ck + 1) (sk + N) := by
  intro p e R s m args below meth c al0 n0 mc ms al H locs ls cells slots C hR hE hl hs h1 h2
  obtain ⟨hK, hF1, hF2, hF3, hF4⟩ := C.2.2.2.2.2.2
  refine va_new (C := Cn) (T := T) (N := N) (fs := fs) C.1.1 C.1.2.1 C.1.2.2.2.2 hin ty0 hty C.1.2.2.2.1 (C.1.2.2.2.2 _ w1) (C.1.2.2.2.2 _ w2) (C.1.2.2.2.2 _ w3) hK.1 hR.1 hR.2.1 hR.2.2.1 (fun q hq => Nat.le_trans hK.2.2.2.2.2.2 hq) hc hfs (by omega) (by omega) hd (fun q H1 hP hD hS => ?_)
  have hx : jl_e G.2.1 G.2.2.1 (va_up al n q) (jO ci fs) = .inr (ci, fs) := by
    show Sum.inr (ci, fs.map (jl_v G.2.2.1 (va_up al n q))) = _
    rw [hsp]
  have hEx : ∀ i, i < n → va_up al n q i = al i := fun i hi => va_up_ne _ _ (Nat.ne_of_lt hi)
  have h9 := k p e R s m args below meth c al0 n0 mc ms (va_up al n q) H1 locs ls (cells + 1) (slots + N) C (hR.new (e := jO ci fs) (fun v hv => jl_okv_mono (hok v hv) (Nat.zero_le n)) (by rw [hx]; exact hP) (by rw [hx]; exact hD) hS) hE.new (hl.ext (Nat.le_succ n) hEx) ⟨Nat.lt_succ_self n, jl_oks_mono (Nat.le_succ n) hs⟩ (by omega) (by omega)
  rw [List.map_cons, jl_oks_map hEx hs] at h9
  have e9 : jl_v G.2.2.1 (va_up al n q) (.ref n) = .ref q := congrArg Value.ref (va_up_self _ _ _)
  rw [e9] at h9
  exact h9
theorem jl_newa {t N' : Nat} {aty : ArrayType} {ty : FieldType} {k9 : Int32} {z : jl_S} (hd : decode M.2.1 pc = .ok (.newarray aty, 2)) (ht : jl_tyl[t]? = some ty) (hty : newarray.typeOf aty = ty) (w1 : Cond.arrayClass (newarray.typeOf aty) ∈ jl_T)
    (hz : ∀ cA : ClassId, vp_cell cA (N', z) = arrV cA N' (fun _ => defaultValue ty)) (hzx : ∀ al, jl_x al z = z) (hzo : ∀ f, z ≠ .inr (.inr (.inr (.inr f)))) (hn : ¬ k9 < 0) (hN : k9.toNatClampNeg = N') (hb : N' * componentBytes ty ≤ 536870912)
    (k : jl_AW l G F M d (pc + 2) L (.ref n :: st) (n + 1) (va_up h n (.inl (t, N', z))) ck sk) : jl_AW l G F M d pc L (.int k9 :: st) n h (ck + 1) (sk + N') := by
  intro p e R s m args below meth c al0 n0 mc ms al H locs ls cells slots C hR hE hl hs h1 h2
  obtain ⟨hK, hF1, hF2, hF3, hF4⟩ := C.2.2.2.2.2.2
  refine va_newa (a0 := (N', z)) C.1.1 C.1.2.1 (C.1.2.2.2.2 _ w1) hty hK.1 hR.1 hR.2.1 hR.2.2.1 (fun q hq => Nat.le_trans hK.2.2.2.2.2.2 hq) hz hn hN hb (by omega) (by omega) hd (fun q cA H1 hK1 hP hD hS => ?_)
  have hcA : cA = G.2.1 t := by
    refine jl_RA_u (U := s) (ty := ty) (hK1.2 (jl_tys G).length (cA, ty) (by simp)).2 (hK.tys ht)
  subst hcA
  have hx : jl_e G.2.1 G.2.2.1 (va_up al n q) (.inl (t, N', z)) = .inl (G.2.1 t, N', z) := by
    show Sum.inl (G.2.1 t, N', jl_x (va_up al n q) z) = _
    rw [hzx]
  have hEx : ∀ i, i < n → va_up al n q i = al i := fun i hi => va_up_ne _ _ (Nat.ne_of_lt hi)
  have h9 := k p e R s m args below meth c al0 n0 mc ms (va_up al n q) H1 locs ls (cells + 1) (slots + N') C (hR.new (e := .inl (t, N', z)) (fun f hf => absurd hf (hzo f)) (by rw [hx]; exact hP) (by rw [hx]; exact hD) hS) hE.new (hl.ext (Nat.le_succ n) hEx) ⟨Nat.lt_succ_self n, jl_oks_mono (Nat.le_succ n) hs.2⟩ (by omega) (by omega)
  rw [List.map_cons, jl_oks_map hEx hs.2] at h9
  have e9 : jl_v G.2.2.1 (va_up al n q) (.ref n) = .ref q := congrArg Value.ref (va_up_self _ _ _)
  rw [e9] at h9
  exact h9
theorem jl_anew {t N' ix : Nat} {Cn : String} {k9 : Int32} (hd : decode M.2.1 pc = .ok (.anewarray ix, 3)) (ht : jl_tyl[t]? = some (.object Cn)) (w1 : Cond.classLink M.1.cls ix Cn ∈ jl_T) (hAO : Cn ∈ jl_O)
    (hn : ¬ k9 < 0) (hN : k9.toNatClampNeg = N') (hb : N' * 4 ≤ 536870912)
    (k : jl_AW l G F M d (pc + 3) L (.ref n :: st) (n + 1) (va_up h n (jQ t N' (fun _ => none))) ck sk) : jl_AW l G F M d pc L (.int k9 :: st) n h (ck + 1) (sk + N') := by
  intro p e R s m args below meth c al0 n0 mc ms al H locs ls cells slots C hR hE hl hs h1 h2
  obtain ⟨hK, hF1, hF2, hF3, hF4⟩ := C.2.2.2.2.2.2
  refine va_newq C.1.1 C.1.2.1 C.1.2.2.2.1 (C.1.2.2.2.2 _ w1) (hK.2.2.1.2 _ hAO) hK.1 hR.1 hR.2.1 hR.2.2.1 (fun q hq => Nat.le_trans hK.2.2.2.2.2.2 hq) hn hN hb (by omega) (by omega) hd (fun q cA H1 hK1 hP hD hS => ?_)
  have hcA : cA = G.2.1 t := by
    refine jl_RA_u (U := s) (ty := .object Cn) (hK1.2 (jl_tys G).length (cA, .object Cn) (by simp)).2 (hK.tys ht)
  subst hcA
  have hEx : ∀ i, i < n → va_up al n q i = al i := fun i hi => va_up_ne _ _ (Nat.ne_of_lt hi)
  have h9 := k p e R s m args below meth c al0 n0 mc ms (va_up al n q) H1 locs ls (cells + 1) (slots + N') C (hR.new (e := jQ t N' (fun _ => none)) (fun f hf j i hi => by cases hf; cases hi) hP hD hS) hE.new (hl.ext (Nat.le_succ n) hEx) ⟨Nat.lt_succ_self n, jl_oks_mono (Nat.le_succ n) hs.2⟩ (by omega) (by omega)
  rw [List.map_cons, jl_oks_map hEx hs.2] at h9
  have e9 : jl_v G.2.2.1 (va_up al n q) (.ref n) = .ref q := congrArg Value.ref (va_up_self _ _ _)
  rw [e9] at h9
  exact h9
/-- the operands' size -/
theorem jl_cats (sb : Nat) (al : Nat → Nat) (st : List Value) : ((st.map (jl_v sb al)).map fun v => v.category).sum = (st.map fun v => v.category).sum := by
  rw [List.map_map]
  congr 2
  funext v
  exact jl_cat sb al v
theorem jl_objInit {x ix : Nat} (hd : decode M.2.1 pc = .ok (.invokespecial ix, 3)) (w1 : Cond.methodLink M.1.cls ix Lib.objectInit ∈ jl_T) (w2 : Cond.instanceMethod Lib.objectInit ∈ jl_T) (w3 : Cond.code Lib.objectInit ⟨#[0xb1]⟩ 1 none ∈ jl_T) (hc : (st.map fun v => v.category).sum ≤ 8)
    (k : jl_AW l G F M d (pc + 3) L st n h ck sk) : jl_AW l G F M d pc L (.ref x :: st) n h ck sk := by
  intro p e R s m args below meth c al0 n0 mc ms al H locs ls cells slots C hR hE hl hs h1 h2
  obtain ⟨hK, hF1, hF2, hF3, hF4⟩ := C.2.2.2.2.2.2
  refine W.objInit C.1.1 C.1.2.1 C.1.2.2.2.1 (C.1.2.2.2.2 _ w1) (C.1.2.2.2.2 _ w2) (C.1.2.2.2.2 _ w3) rfl (by rw [C.1.2.2.1]; exact hl.1) rfl hd (by omega) (by have := lv_room (m := m) (pc := pc) (ls := ls) (rest := st.map (jl_v G.2.2.1 al)) (st := st.map (jl_v G.2.2.1 al)) (by rw [jl_cats]; exact hc); show 2 * (F0 m pc ls (st.map (jl_v G.2.2.1 al))).monitorRoom + _ + 12 ≤ _; omega) ?_
  exact k p e R s m args below meth c al0 n0 mc ms al H locs ls cells slots C hR hE hl hs.2 h1 h2
section JLR
variable {Kr : Option Value → Nat → (Nat → va_E) → Prop} {Kx : String → Nat → (Nat → va_E) → Prop}
theorem jl_iret {x : Int32} (hd : decode M.2.1 pc = .ok (.ireturn, 1)) (hr : M.2.2.2.1 = some .int) (hk : Kr (some (.int x)) n h) : jl_AW l G (jl_F G Kr Kx) M d pc L [.int x] n h ck sk := by
  intro p e R s m args below meth c al0 n0 mc ms al H locs ls cells slots C hR hE hl hs h1 h2
  refine W.widen (k := mc) (n := ms) (by omega) (by omega) (vx_ret ?_)
  exact W.iret (v := x) C.1.1 C.1.2.1 (C.2.1.trans hr) (fun t ht hW => ⟨some (.int x), n, h, al, rfl, hk, ⟨hE, by rw [ht]; exact hR.1, hR.2.1, hR.2.2.2, hR.2.2.1.F ht⟩, ⟨trivial, trivial⟩⟩) hR.2.2.1.2.2 hd C.2.2.1
theorem jl_zret {x : Int32} (hd : decode M.2.1 pc = .ok (.ireturn, 1)) (hr : M.2.2.2.1 = some .boolean) (hx : narrow .boolean (.int x) = .int x) (hk : Kr (some (.int x)) n h) : jl_AW l G (jl_F G Kr Kx) M d pc L [.int x] n h ck sk := by
  intro p e R s m args below meth c al0 n0 mc ms al H locs ls cells slots C hR hE hl hs h1 h2
  refine W.widen (k := mc) (n := ms) (by omega) (by omega) (vx_ret ?_)
  exact W.zret (v := x) C.1.1 C.1.2.1 (C.2.1.trans hr) hx (fun t ht hW => ⟨some (.int x), n, h, al, rfl, hk, ⟨hE, by rw [ht]; exact hR.1, hR.2.1, hR.2.2.2, hR.2.2.1.F ht⟩, ⟨trivial, trivial⟩⟩) hR.2.2.1.2.2 hd C.2.2.1
theorem jl_vret (hd : decode M.2.1 pc = .ok (.return_, 1)) (hr : M.2.2.2.1 = none) (hk : Kr none n h) : jl_AW l G (jl_F G Kr Kx) M d pc L [] n h ck sk := by
  intro p e R s m args below meth c al0 n0 mc ms al H locs ls cells slots C hR hE hl hs h1 h2
  refine W.widen (k := mc) (n := ms) (by omega) (by omega) (vx_ret ?_)
  exact W.vret C.1.1 C.1.2.1 (C.2.1.trans hr) (fun t ht hW => ⟨none, n, h, al, rfl, hk, ⟨hE, by rw [ht]; exact hR.1, hR.2.1, hR.2.2.2, hR.2.2.1.F ht⟩, trivial⟩) hR.2.2.1.2.2 hd C.2.2.1
theorem jl_aret {x : Nat} {rt : FieldType} (hd : decode M.2.1 pc = .ok (.areturn, 1)) (hr : M.2.2.2.1 = some rt) (hrt : (∃ n, rt = .object n) ∨ ∃ t, rt = .array t) (hk : Kr (some (.ref x)) n h) : jl_AW l G (jl_F G Kr Kx) M d pc L [.ref x] n h ck sk := by
  intro p e R s m args below meth c al0 n0 mc ms al H locs ls cells slots C hR hE hl hs h1 h2
  refine W.widen (k := mc) (n := ms) (by omega) (by omega) (vx_ret ?_)
  exact W.aret (v := .ref (al x)) C.1.1 C.1.2.1 (C.2.1.trans hr) hrt (Or.inr ⟨_, rfl⟩) (fun t ht hW => ⟨some (.ref x), n, h, al, rfl, hk, ⟨hE, by rw [ht]; exact hR.1, hR.2.1, hR.2.2.2, hR.2.2.1.F ht⟩, hs⟩) hR.2.2.1.2.2 hd C.2.2.1
/-- throw new E("text") -/
theorem jl_throw {cls text : String} {names : List String} {ik is ic : Nat} {B : List Cond} (d0 : decode M.2.1 pc = .ok (.new ik, 3)) (d3 : decode M.2.1 (pc + 3) = .ok (.dup, 1)) (d4 : decode M.2.1 (pc + 4) = .ok (.ldc is, 2)) (d6 : decode M.2.1 (pc + 6) = .ok (.invokespecial ic, 3)) (d9 : decode M.2.1 (pc + 9) = .ok (.athrow, 1))
    (hh : M.2.2.2.2 = []) (hcls : Bundle.fit cls = true) (hnames : ∀ n ∈ names, Bundle.fit n = true) (w1 : Cond.classLink M.1.cls ik cls ∈ jl_T) (w2 : Cond.initialized cls ∈ jl_T) (hz : (M.1.cls, is, text) ∈ jl_Z)
    (hat1 : ∀ w ∈ (vx_atS M.1.cls ic cls names).filter goodWord, w ∈ jl_T) (hat2 : ∀ w ∈ (vx_atS M.1.cls ic cls names).filter (fun w => !goodWord w), w ∈ jl_N)
    (hgood : ∀ w ∈ Cond.classLink M.1.cls ik cls :: Cond.initialized cls :: vx_atS M.1.cls ic cls names, vx_ot w = true) (hnl : names.length ≤ 5) (hc : (st.map fun v => v.category).sum ≤ 8)
    (hk : Kx cls n h) : jl_AW l G (jl_F G Kr Kx) M d pc L st n h (ck + 1) (sk + 6) := by
  intro p e R s m args below meth c al0 n0 mc ms al H locs ls cells slots C hR hE hl hs h1 h2
  obtain ⟨hK, hF1, hF2, hF3, hF4⟩ := C.2.2.2.2.2.2
  obtain ⟨sa, hsa⟩ := hK.2.2.1.1 _ hz
  have hnone : ∀ x ∈ c.exceptionTable.toList, covers x (pc + 9) = false := by
    rw [C.2.2.2.2.1, hh]
    intro x hx
    cases hx
  refine vx_throwS (A := jl_A G) (names := names) (sa := sa) C.1.1 C.1.2.1 C.2.2.2.2.2.1 C.1.2.2.2.1 hcls hnames (C.1.2.2.2.2 _ w1) (C.1.2.2.2.2 _ w2) hsa ?_ hgood hK.2.2.2.1.1 hK.2.2.2.1.2 hR.2.2.1 (by rw [C.1.2.2.1]; exact hl.1) d0 d3 d4 d6 d9 hnone (by omega) (by rw [jl_cats]; omega) (by omega) (by omega) C.2.2.1 ?_ hR.2.2.1.2.2 (by omega) (by omega)
  · refine vx_hat (B := jl_N) (fun w hw => C.1.2.2.2.2 _ (hat1 w hw)) hat2 (fun w hw => va_Nw.use ?_ (hK.2.1 w hw))
    have g := (List.mem_filter.mp hw).2
    cases w with
    | fieldLinkNest a b c d e f => rfl
    | methodLinkNest a b c d => rfl
    | castable a b => rfl
    | _ => cases g
  · intro t ht hsz hq
    refine ⟨n, h, al, hk, hE, hR.1.kept (fun k q hk9 => hq _ (vx_lt hR.1 hk9)), hR.2.1, hR.2.2.2, Nat.le_trans hR.2.2.1.1 hsz, fun q hq1 hq2 => ?_⟩
    rw [hq q (Nat.lt_of_lt_of_le hq1 hR.2.2.1.1)]
    exact hR.2.2.1.2.1 q hq1 hq2
end JLR
/-- behind a call: the world that came back, or the thing thrown -/
theorem jl_run {p : Program} {e : Env} {R : Room} {s : State} {m : MethodId} {args : Array Value} {below : List Frame} {meth : Method} {c : Code} {al : Nat → Nat} {H : Heap} {locs : List Loc} {ls : Array Slot} {cells slots ck' sk' : Nat} {Q : State → Prop} {st0 rest : List Value} {As : Array Value} {Kr' : Option Value → Nat → (Nat → va_E) → Prop} {Kx' : String → Nat → (Nat → va_E) → Prop}
    (hr : vx_Run p l e R s m args below meth c H locs cells slots ck' sk' (F0 m pc ls st0) rest (jl_Q G al n Kr' As) (jl_X G al n Kx') (jl_A G)) (hS : va_S (jl_A G) s.heap H locs)
    (kk : ∀ (r : Option Value) (n' : Nat) (h' : Nat → va_E) (al' : Nat → Nat) (H' : Heap) (locs' : List Loc), Kr' r n' h' → jl_E n al n' al' → jl_R G n' h' al' s H' locs' → jl_oks n' r.toList → W p l e R s m args below meth c H' locs' (cells + ck') (slots + sk') Q (F0 m (pc + 3) ls ((r.map (jl_v G.2.2.1 al')).toList ++ rest)))
    (kx : ∀ (E : String) (ce : Cell) (q : Addr) (n' : Nat) (h' : Nat → va_E) (al' : Nat → Nat) (H' : Heap) (locs' : List Loc), Kx' E n' h' → jl_E n al n' al' → jl_R G n' h' al' s H' locs' → H'[q]? = some ce → ce.vm = .none → s.vm.findClass E = some ce.cls → vx_W p l e R s m args below meth c H' locs' (cells + ck') (slots + sk') Q (F0 m pc ls rest) q) :
    W p l e R s m args below meth c H locs cells slots Q (F0 m pc ls st0) := by
  intro T hT X
  rcases hr T hT X with ⟨v, st₀, t, T', Lc, h0, X', hL, e1, e2, ⟨r, n', h', al', hv, hk, ⟨hE, hP, hD, hok, hF⟩, hro⟩, stp⟩ | ⟨q, st₀, t, T', Lc, E, ce, h0, X', hL, e1, e2, ⟨n', h', al', hk, ⟨hE, hP, hD, hok, hF⟩⟩, hce, hcv, hcl, stp⟩
  · obtain ⟨k1, k2, k3⟩ := vx_keep h0 e1 hS (fun q _ z => z) (fun q z => z) hL hF
    have hv' : v = r.map (jl_v G.2.2.1 al') := Outcome.returned.inj hv
    subst hv'
    obtain ⟨t2, a1, b1⟩ := kk r n' h' al' T'.heap (locs ++ Lc) hk hE ⟨by rw [e1]; exact hP, hD, k3, hok⟩ hro T' rfl X'
    exact ⟨t2, stp t2 a1, b1⟩
  · obtain ⟨k1, k2, k3⟩ := vx_keep h0 e1 hS (fun q _ z => z) (fun q z => z) hL hF
    obtain ⟨t2, a1, b1⟩ := kx E ce q n' h' al' T'.heap (locs ++ Lc) hk hE ⟨by rw [e1]; exact hP, hD, k3, hok⟩ (by rw [e1]; exact hce) hcv hcl T' rfl X'
    exact ⟨t2, stp.trans a1, b1⟩
theorem jl_noX {y : MethodName} {ws : List Cond} {rm : Room} {Pc : Array Value → State → Prop} {Qc : Array Value → State → Outcome → State → Prop} {al : Nat → Nat} {mc ms : Nat} {free : Addr → Prop} (hM : vx_Met l y ws rm Pc Qc (jl_X G al n (fun _ _ _ => False)) mc ms free) : Met l y ws rm Pc Qc mc ms free := by
  intro p e ha hc hk s m args below hf happ hP hK
  obtain ⟨k, o, h1, h2, h3, h4⟩ := hM p e ha hc hk s m args below hf happ hP hK
  refine ⟨k, o, h1, h2, h3, ?_⟩
  rcases h4 with h4 | ⟨q, -, E, ce, L9, ⟨n9, h9, al9, hF, -⟩, -⟩
  · exact h4
  · exact hF.elim
theorem jl_runM {p : Program} {e : Env} {R : Room} {s : State} {m : MethodId} {args : Array Value} {below : List Frame} {meth : Method} {c : Code} {al : Nat → Nat} {H : Heap} {locs : List Loc} {ls : Array Slot} {cells slots ck' sk' : Nat} {Q : State → Prop} {st0 rest : List Value} {As : Array Value} {Kr' : Option Value → Nat → (Nat → va_E) → Prop}
    (hr : va_Run p l e R s m args below meth c H locs cells slots ck' sk' (F0 m pc ls st0) rest (jl_Q G al n Kr' As) (jl_A G)) (hS : va_S (jl_A G) s.heap H locs)
    (kk : ∀ (r : Option Value) (n' : Nat) (h' : Nat → va_E) (al' : Nat → Nat) (H' : Heap) (locs' : List Loc), Kr' r n' h' → jl_E n al n' al' → jl_R G n' h' al' s H' locs' → jl_oks n' r.toList → W p l e R s m args below meth c H' locs' (cells + ck') (slots + sk') Q (F0 m (pc + 3) ls ((r.map (jl_v G.2.2.1 al')).toList ++ rest))) :
    W p l e R s m args below meth c H locs cells slots Q (F0 m pc ls st0) := by
  intro T hT X
  obtain ⟨v, st₀, t, T', Lc, h0, X', hL, e1, e2, ⟨r, n', h', al', hv, hk, ⟨hE, hP, hD, hok, hF⟩, hro⟩, stp⟩ := hr T hT X
  obtain ⟨k1, k2, k3⟩ := vx_keep h0 e1 hS (fun q _ z => z) (fun q z => z) hL hF
  have hv' : v = r.map (jl_v G.2.2.1 al') := Outcome.returned.inj hv
  subst hv'
  obtain ⟨t2, a1, b1⟩ := kk r n' h' al' T'.heap (locs ++ Lc) hk hE ⟨by rw [e1]; exact hP, hD, k3, hok⟩ hro T' rfl X'
  exact ⟨t2, stp t2 a1, b1⟩
theorem jl_goodT {pre : List Cond} {M' : jl_M} (hp : ∀ w ∈ pre, w ∈ jl_T) (hc : jl_cw M' ∈ jl_T) : GoodIn jl_T (pre ++ (jl_cw M' :: jl_T)) := by
  intro w hw
  have hm : w ∈ jl_T := by
    rcases List.mem_append.mp hw with q | q
    · exact hp w q
    · rcases List.mem_cons.mp q with q | q
      · rw [q]; exact hc
      · exact q
  exact ⟨hm, good_of_word (List.mem_filter.mp hm).2⟩
theorem jl_pre {s : State} {al : Nat → Nat} {H : Heap} {locs : List Loc} {as : List Value} (hK : jl_K G s s.heap) (hR : jl_R G n h al s H locs) : FrameBlind (va_Pc (as.map (jl_v G.2.2.1 al)) (jl_Pc G al n h)) ∧ ∀ U : State, U.heap = H → s.WarmedH U.vm → va_Pc (as.map (jl_v G.2.2.1 al)) (jl_Pc G al n h) (as.map (jl_v G.2.2.1 al)).toArray U :=
  ⟨fun a U g mk q => ⟨q.1, jl_K.same q.2.1 rfl rfl, q.2.2⟩, fun U hU hW => ⟨rfl, hK.to hW (by rw [hU]; exact hR.2.2.1), by rw [hU]; exact hR.1⟩⟩
theorem jl_oks_app {n : Nat} : ∀ {a b : List Value}, jl_oks n a → jl_oks n b → jl_oks n (a ++ b)
  | [], _, _, hb => hb
  | _ :: _, _, ha, hb => ⟨ha.1, jl_oks_app ha.2 hb⟩
theorem jl_oks_mem {n : Nat} : ∀ {a : List Value}, jl_oks n a ↔ ∀ v ∈ a, jl_okv n v
  | [] => ⟨fun _ v hv => (nomatch hv), fun _ => trivial⟩
  | x :: a => ⟨fun h v hv => by
      rcases List.mem_cons.mp hv with q | q
      · rw [q]; exact h.1
      · exact jl_oks_mem.mp h.2 v q, fun h => ⟨h x List.mem_cons_self, jl_oks_mem.mpr fun v hv => h v (List.mem_cons_of_mem _ hv)⟩⟩
theorem jl_oks_call {as st : List Value} (h : jl_oks n (as.reverse ++ st)) : jl_oks n as ∧ jl_oks n st := by
  rw [jl_oks_mem] at h
  exact ⟨jl_oks_mem.mpr fun v hv => h v (by simp [hv]), jl_oks_mem.mpr fun v hv => h v (by simp [hv])⟩
theorem jl_oks_callR {x : Nat} {as st : List Value} (h : jl_oks n (as.reverse ++ .ref x :: st)) : jl_oks n (.ref x :: as) ∧ jl_oks n st := by
  obtain ⟨h1, h2⟩ := jl_oks_call h
  exact ⟨⟨h2.1, h1⟩, h2.2⟩
theorem jl_invV {Kr : Option Value → Nat → (Nat → va_E) → Prop} {Kx : String → Nat → (Nat → va_E) → Prop} {M' : jl_M} {ix d' ck' sk' na : Nat} {x : Nat} {ci N : Nat} {T : u_T} {fs : List Value} {as stk : List Value} (hd : decode M.2.1 pc = .ok (.invokevirtual ix, 3)) (hstk : stk = as.reverse ++ .ref x :: st) (he : h x = jO ci fs) (hci : vwCl[ci]? = some (M'.1.cls, T, N)) (w1 : Cond.methodLink M.1.cls ix M'.1 ∈ jl_T) (w2 : Cond.instanceMethod M'.1 ∈ jl_T) (w3 : Cond.selects M'.1.cls M'.1 M'.1 ∈ jl_T) (wi : Cond.initialized M'.1.cls ∈ jl_T) (wc : jl_cw M' ∈ jl_T) (hh' : M'.2.2.2.2 = []) (hh : M.2.2.2.2 = []) (hna : as.length = na) (hy : M'.1.cls ≠ "java/lang/invoke/MethodHandle" ∧ M'.1.cls ≠ "java/lang/invoke/VarHandle" ∧ (parseMethodDescriptor M'.1.desc).map (fun d => d.parameters.length) = some na) (hd' : d' < d) (hml : M'.2.2.1 ≤ 45) (hc : (st.map fun v => v.category).sum ≤ 8)
    (k : jl_Call l G M' d' (.ref x :: as) n h ck' sk' (fun r n' h' => jl_AW l G (jl_F G Kr Kx) M d (pc + 3) L (r.toList ++ st) n' h' ck sk) Kx) : jl_AW l G (jl_F G Kr Kx) M d pc L stk n h (ck + ck') (sk + sk') := by
  intro p e R s m args below meth c al0 n0 mc ms al H locs ls cells slots C hR hE hl hs h1 h2
  obtain ⟨hK, hF1, hF2, hF3, hF4⟩ := id C.2.2.2.2.2.2
  subst hstk
  subst hna
  have hoa : jl_oks n (.ref x :: as) ∧ jl_oks n st := jl_oks_callR hs
  have hM := k al hR.2.1 hR.2.2.2 hoa.1
  have hcw : jl_cw M' = .code M'.1 M'.2.1 M'.2.2.1 M'.2.2.2.1 := by unfold jl_cw; rw [hh']
  have hfr : (jl_rm d' ck' sk').frames + 1 ≤ R.frames := by have q9 := jl_rm_fr d' ck' sk'; omega
  have hlo : 8 + (M'.2.2.1 + 11) + (jl_rm d' ck' sk').locals ≤ R.locals := by have q9 := jl_rm_lo d' ck' sk'; omega
  have hrun := vx_runV (C := M'.1.cls) (As := as.map (jl_v G.2.2.1 al)) (rest := st.map (jl_v G.2.2.1 al)) C.1 hM ⟨(callB_of as.length C.1.2.2.2.2 (jl_goodT (pre := []) (fun w hw => nomatch hw) wc) (by rw [hcw]) rfl rfl (C.1.2.2.2.2 _ wi) (C.1.2.2.2.2 _ w1) hy ⟨hfr, hlo⟩), C.1.2.2.2.2 _ w2, C.1.2.2.2.2 _ w3⟩ ⟨(jl_pre (as := .ref x :: as) hK hR).1, va_recv hK.1 hR.1 hci (jl_obj hoa.1.1 he), (jl_pre (as := .ref x :: as) hK hR).2⟩ (g := F0 m pc ls ((as.reverse ++ .ref x :: st).map (jl_v G.2.2.1 al))) (locs := locs) (cells := cells) (slots := slots) (below := below) (e := e) (meth := meth) rfl (by rw [List.length_map]) hl.1 (by rw [List.map_append, List.map_reverse, List.map_cons]; rfl) (lv_room (by rw [jl_cats]; exact hc)) hd ⟨by omega, by omega⟩
  refine jl_run hrun hR.2.2.1 (fun r n' h' al' H' locs' hk hE' hR' hro => ?_) (fun E ce q n' h' al' H' locs' hk hE' hR' hce hcv hcl => ?_)
  · have h9 := hk p e R s m args below meth c al0 n0 mc ms al' H' locs' ls (cells + ck') (slots + sk') C hR' ⟨Nat.le_trans hE.1 hE'.1, fun i hi => (hE'.2 i (Nat.lt_of_lt_of_le hi hE.1)).trans (hE.2 i hi)⟩ (hl.ext hE'.1 hE'.2) (jl_oks_app hro (jl_oks_mono hE'.1 hoa.2)) (by omega) (by omega)
    rw [List.map_append, jl_oks_map hE'.2 hoa.2] at h9
    cases r <;> exact h9
  · refine vx_out (E := E) (by rw [C.2.2.2.2.1, hh]; intro x9 hx9; cases hx9) C.2.2.1 hce hcv hcl (fun t ht ha => ⟨n', h', al', hk, ⟨Nat.le_trans hE.1 hE'.1, fun i hi => (hE'.2 i (Nat.lt_of_lt_of_le hi hE.1)).trans (hE.2 i hi)⟩, by rw [ht]; exact hR'.1, hR'.2.1, hR'.2.2.2, hR'.2.2.1.F ht⟩) hR'.2.2.1.2.2 (by omega) (by omega)
theorem jl_invV0 {M' : jl_M} {ix d' ck' sk' na : Nat} {x : Nat} {ci N : Nat} {T : u_T} {fs : List Value} {as stk : List Value} (hd : decode M.2.1 pc = .ok (.invokevirtual ix, 3)) (hstk : stk = as.reverse ++ .ref x :: st) (he : h x = jO ci fs) (hci : vwCl[ci]? = some (M'.1.cls, T, N)) (w1 : Cond.methodLink M.1.cls ix M'.1 ∈ jl_T) (w2 : Cond.instanceMethod M'.1 ∈ jl_T) (w3 : Cond.selects M'.1.cls M'.1 M'.1 ∈ jl_T) (wi : Cond.initialized M'.1.cls ∈ jl_T) (wc : jl_cw M' ∈ jl_T) (hh' : M'.2.2.2.2 = []) (hna : as.length = na) (hy : M'.1.cls ≠ "java/lang/invoke/MethodHandle" ∧ M'.1.cls ≠ "java/lang/invoke/VarHandle" ∧ (parseMethodDescriptor M'.1.desc).map (fun d => d.parameters.length) = some na) (hd' : d' < d) (hml : M'.2.2.1 ≤ 45) (hc : (st.map fun v => v.category).sum ≤ 8)
    (k : jl_Call l G M' d' (.ref x :: as) n h ck' sk' (fun r n' h' => jl_AW l G F M d (pc + 3) L (r.toList ++ st) n' h' ck sk) (fun _ _ _ => False)) : jl_AW l G F M d pc L stk n h (ck + ck') (sk + sk') := by
  intro p e R s m args below meth c al0 n0 mc ms al H locs ls cells slots C hR hE hl hs h1 h2
  obtain ⟨hK, hF1, hF2, hF3, hF4⟩ := id C.2.2.2.2.2.2
  subst hstk
  subst hna
  have hoa : jl_oks n (.ref x :: as) ∧ jl_oks n st := jl_oks_callR hs
  have hM := k al hR.2.1 hR.2.2.2 hoa.1
  have hcw : jl_cw M' = .code M'.1 M'.2.1 M'.2.2.1 M'.2.2.2.1 := by unfold jl_cw; rw [hh']
  have hfr : (jl_rm d' ck' sk').frames + 1 ≤ R.frames := by have q9 := jl_rm_fr d' ck' sk'; omega
  have hlo : 8 + (M'.2.2.1 + 11) + (jl_rm d' ck' sk').locals ≤ R.locals := by have q9 := jl_rm_lo d' ck' sk'; omega
  have hrun := vx_runV (C := M'.1.cls) (As := as.map (jl_v G.2.2.1 al)) (rest := st.map (jl_v G.2.2.1 al)) C.1 hM ⟨(callB_of as.length C.1.2.2.2.2 (jl_goodT (pre := []) (fun w hw => nomatch hw) wc) (by rw [hcw]) rfl rfl (C.1.2.2.2.2 _ wi) (C.1.2.2.2.2 _ w1) hy ⟨hfr, hlo⟩), C.1.2.2.2.2 _ w2, C.1.2.2.2.2 _ w3⟩ ⟨(jl_pre (as := .ref x :: as) hK hR).1, va_recv hK.1 hR.1 hci (jl_obj hoa.1.1 he), (jl_pre (as := .ref x :: as) hK hR).2⟩ (g := F0 m pc ls ((as.reverse ++ .ref x :: st).map (jl_v G.2.2.1 al))) (locs := locs) (cells := cells) (slots := slots) (below := below) (e := e) (meth := meth) rfl (by rw [List.length_map]) hl.1 (by rw [List.map_append, List.map_reverse, List.map_cons]; rfl) (lv_room (by rw [jl_cats]; exact hc)) hd ⟨by omega, by omega⟩
  refine jl_run hrun hR.2.2.1 (fun r n' h' al' H' locs' hk hE' hR' hro => ?_) (fun E ce q n' h' al' H' locs' hk hE' hR' hce hcv hcl => ?_)
  · have h9 := hk p e R s m args below meth c al0 n0 mc ms al' H' locs' ls (cells + ck') (slots + sk') C hR' ⟨Nat.le_trans hE.1 hE'.1, fun i hi => (hE'.2 i (Nat.lt_of_lt_of_le hi hE.1)).trans (hE.2 i hi)⟩ (hl.ext hE'.1 hE'.2) (jl_oks_app hro (jl_oks_mono hE'.1 hoa.2)) (by omega) (by omega)
    rw [List.map_append, jl_oks_map hE'.2 hoa.2] at h9
    cases r <;> exact h9
  · exact hk.elim
theorem jl_invVN0 {M' : jl_M} {ix d' ck' sk' na : Nat} {x : Nat} {host : String} {ci N : Nat} {T : u_T} {fs : List Value} {as stk : List Value} (hd : decode M.2.1 pc = .ok (.invokevirtual ix, 3)) (hstk : stk = as.reverse ++ .ref x :: st) (he : h x = jO ci fs) (hci : vwCl[ci]? = some (M'.1.cls, T, N)) (w1 : Cond.methodLinkNest M.1.cls ix M'.1 host ∈ jl_N) (w2 : Cond.instanceMethod M'.1 ∈ jl_T) (w3 : Cond.selects M'.1.cls M'.1 M'.1 ∈ jl_T) (wi : Cond.initialized M'.1.cls ∈ jl_T) (wc : jl_cw M' ∈ jl_T) (hh' : M'.2.2.2.2 = []) (hna : as.length = na) (hy : M'.1.cls ≠ "java/lang/invoke/MethodHandle" ∧ M'.1.cls ≠ "java/lang/invoke/VarHandle" ∧ (parseMethodDescriptor M'.1.desc).map (fun d => d.parameters.length) = some na) (hd' : d' < d) (hml : M'.2.2.1 ≤ 45) (hc : (st.map fun v => v.category).sum ≤ 8)
    (k : jl_Call l G M' d' (.ref x :: as) n h ck' sk' (fun r n' h' => jl_AW l G F M d (pc + 3) L (r.toList ++ st) n' h' ck sk) (fun _ _ _ => False)) : jl_AW l G F M d pc L stk n h (ck + ck') (sk + sk') := by
  intro p e R s m args below meth c al0 n0 mc ms al H locs ls cells slots C hR hE hl hs h1 h2
  obtain ⟨hK, hF1, hF2, hF3, hF4⟩ := id C.2.2.2.2.2.2
  subst hstk
  subst hna
  have hoa : jl_oks n (.ref x :: as) ∧ jl_oks n st := jl_oks_callR hs
  have hM := jl_noX (k al hR.2.1 hR.2.2.2 hoa.1)
  have hcw : jl_cw M' = .code M'.1 M'.2.1 M'.2.2.1 M'.2.2.2.1 := by unfold jl_cw; rw [hh']
  have hfr : (jl_rm d' ck' sk').frames + 1 ≤ R.frames := by have q9 := jl_rm_fr d' ck' sk'; omega
  have hlo : 8 + (M'.2.2.1 + 11) + (jl_rm d' ck' sk').locals ≤ R.locals := by have q9 := jl_rm_lo d' ck' sk'; omega
  have hrun := va_runVN (C := M'.1.cls) (host := host) (As := as.map (jl_v G.2.2.1 al)) (rest := st.map (jl_v G.2.2.1 al)) C.1 hM ⟨(va_cnB (host := host) as.length C.1.2.2.2.2 (jl_goodT (pre := []) (fun w hw => nomatch hw) wc) (by rw [hcw]) rfl rfl (hK.2.1 _ w1) (C.1.2.2.2.2 _ wi) hy ⟨hfr, hlo⟩), C.1.2.2.2.2 _ w2, C.1.2.2.2.2 _ w3⟩ ⟨(jl_pre (as := .ref x :: as) hK hR).1, va_recv hK.1 hR.1 hci (jl_obj hoa.1.1 he), (jl_pre (as := .ref x :: as) hK hR).2⟩ (g := F0 m pc ls ((as.reverse ++ .ref x :: st).map (jl_v G.2.2.1 al))) (locs := locs) (cells := cells) (slots := slots) (below := below) (e := e) (meth := meth) rfl (by rw [List.length_map]) hl.1 (by rw [List.map_append, List.map_reverse, List.map_cons]; rfl) (lv_room (by rw [jl_cats]; exact hc)) hd ⟨by omega, by omega⟩
  refine jl_runM hrun hR.2.2.1 (fun r n' h' al' H' locs' hk hE' hR' hro => ?_)
  · have h9 := hk p e R s m args below meth c al0 n0 mc ms al' H' locs' ls (cells + ck') (slots + sk') C hR' ⟨Nat.le_trans hE.1 hE'.1, fun i hi => (hE'.2 i (Nat.lt_of_lt_of_le hi hE.1)).trans (hE.2 i hi)⟩ (hl.ext hE'.1 hE'.2) (jl_oks_app hro (jl_oks_mono hE'.1 hoa.2)) (by omega) (by omega)
    rw [List.map_append, jl_oks_map hE'.2 hoa.2] at h9
    cases r <;> exact h9
theorem jl_invS {Kr : Option Value → Nat → (Nat → va_E) → Prop} {Kx : String → Nat → (Nat → va_E) → Prop} {M' : jl_M} {ix d' ck' sk' na : Nat} {as stk : List Value} (hd : decode M.2.1 pc = .ok (.invokestatic ix, 3)) (hstk : stk = as.reverse ++ st) (w1 : Cond.methodLink M.1.cls ix M'.1 ∈ jl_T) (w2 : Cond.static M'.1 ∈ jl_T) (wi : Cond.initialized M'.1.cls ∈ jl_T) (wc : jl_cw M' ∈ jl_T) (hh' : M'.2.2.2.2 = []) (hh : M.2.2.2.2 = []) (hna : as.length = na) (hy : M'.1.cls ≠ "java/lang/invoke/MethodHandle" ∧ M'.1.cls ≠ "java/lang/invoke/VarHandle" ∧ (parseMethodDescriptor M'.1.desc).map (fun d => d.parameters.length) = some na) (hd' : d' < d) (hml : M'.2.2.1 ≤ 45) (hc : (st.map fun v => v.category).sum ≤ 8)
    (k : jl_Call l G M' d' as n h ck' sk' (fun r n' h' => jl_AW l G (jl_F G Kr Kx) M d (pc + 3) L (r.toList ++ st) n' h' ck sk) Kx) : jl_AW l G (jl_F G Kr Kx) M d pc L stk n h (ck + ck') (sk + sk') := by
  intro p e R s m args below meth c al0 n0 mc ms al H locs ls cells slots C hR hE hl hs h1 h2
  obtain ⟨hK, hF1, hF2, hF3, hF4⟩ := id C.2.2.2.2.2.2
  subst hstk
  subst hna
  have hoa : jl_oks n as ∧ jl_oks n st := jl_oks_call hs
  have hM := k al hR.2.1 hR.2.2.2 hoa.1
  have hcw : jl_cw M' = .code M'.1 M'.2.1 M'.2.2.1 M'.2.2.2.1 := by unfold jl_cw; rw [hh']
  have hfr : (jl_rm d' ck' sk').frames + 1 ≤ R.frames := by have q9 := jl_rm_fr d' ck' sk'; omega
  have hlo : 8 + (M'.2.2.1 + 11) + (jl_rm d' ck' sk').locals ≤ R.locals := by have q9 := jl_rm_lo d' ck' sk'; omega
  have hrun := vx_runS (As := as.map (jl_v G.2.2.1 al)) (rest := st.map (jl_v G.2.2.1 al)) C.1 hM ⟨(callB_of as.length C.1.2.2.2.2 (jl_goodT (pre := []) (fun w hw => nomatch hw) wc) (by rw [hcw]) rfl rfl (C.1.2.2.2.2 _ wi) (C.1.2.2.2.2 _ w1) hy ⟨hfr, hlo⟩), C.1.2.2.2.2 _ w2⟩ (jl_pre (as := as) hK hR) (g := F0 m pc ls ((as.reverse ++ st).map (jl_v G.2.2.1 al))) (locs := locs) (cells := cells) (slots := slots) (below := below) (e := e) (meth := meth) rfl (by rw [List.length_map]) hl.1 (by rw [List.map_append, List.map_reverse]) (lv_room (by rw [jl_cats]; exact hc)) hd ⟨by omega, by omega⟩
  refine jl_run hrun hR.2.2.1 (fun r n' h' al' H' locs' hk hE' hR' hro => ?_) (fun E ce q n' h' al' H' locs' hk hE' hR' hce hcv hcl => ?_)
  · have h9 := hk p e R s m args below meth c al0 n0 mc ms al' H' locs' ls (cells + ck') (slots + sk') C hR' ⟨Nat.le_trans hE.1 hE'.1, fun i hi => (hE'.2 i (Nat.lt_of_lt_of_le hi hE.1)).trans (hE.2 i hi)⟩ (hl.ext hE'.1 hE'.2) (jl_oks_app hro (jl_oks_mono hE'.1 hoa.2)) (by omega) (by omega)
    rw [List.map_append, jl_oks_map hE'.2 hoa.2] at h9
    cases r <;> exact h9
  · refine vx_out (E := E) (by rw [C.2.2.2.2.1, hh]; intro x9 hx9; cases hx9) C.2.2.1 hce hcv hcl (fun t ht ha => ⟨n', h', al', hk, ⟨Nat.le_trans hE.1 hE'.1, fun i hi => (hE'.2 i (Nat.lt_of_lt_of_le hi hE.1)).trans (hE.2 i hi)⟩, by rw [ht]; exact hR'.1, hR'.2.1, hR'.2.2.2, hR'.2.2.1.F ht⟩) hR'.2.2.1.2.2 (by omega) (by omega)
theorem jl_invS0 {M' : jl_M} {ix d' ck' sk' na : Nat} {as stk : List Value} (hd : decode M.2.1 pc = .ok (.invokestatic ix, 3)) (hstk : stk = as.reverse ++ st) (w1 : Cond.methodLink M.1.cls ix M'.1 ∈ jl_T) (w2 : Cond.static M'.1 ∈ jl_T) (wi : Cond.initialized M'.1.cls ∈ jl_T) (wc : jl_cw M' ∈ jl_T) (hh' : M'.2.2.2.2 = []) (hna : as.length = na) (hy : M'.1.cls ≠ "java/lang/invoke/MethodHandle" ∧ M'.1.cls ≠ "java/lang/invoke/VarHandle" ∧ (parseMethodDescriptor M'.1.desc).map (fun d => d.parameters.length) = some na) (hd' : d' < d) (hml : M'.2.2.1 ≤ 45) (hc : (st.map fun v => v.category).sum ≤ 8)
    (k : jl_Call l G M' d' as n h ck' sk' (fun r n' h' => jl_AW l G F M d (pc + 3) L (r.toList ++ st) n' h' ck sk) (fun _ _ _ => False)) : jl_AW l G F M d pc L stk n h (ck + ck') (sk + sk') := by
  intro p e R s m args below meth c al0 n0 mc ms al H locs ls cells slots C hR hE hl hs h1 h2
  obtain ⟨hK, hF1, hF2, hF3, hF4⟩ := id C.2.2.2.2.2.2
  subst hstk
  subst hna
  have hoa : jl_oks n as ∧ jl_oks n st := jl_oks_call hs
  have hM := k al hR.2.1 hR.2.2.2 hoa.1
  have hcw : jl_cw M' = .code M'.1 M'.2.1 M'.2.2.1 M'.2.2.2.1 := by unfold jl_cw; rw [hh']
  have hfr : (jl_rm d' ck' sk').frames + 1 ≤ R.frames := by have q9 := jl_rm_fr d' ck' sk'; omega
  have hlo : 8 + (M'.2.2.1 + 11) + (jl_rm d' ck' sk').locals ≤ R.locals := by have q9 := jl_rm_lo d' ck' sk'; omega
  have hrun := vx_runS (As := as.map (jl_v G.2.2.1 al)) (rest := st.map (jl_v G.2.2.1 al)) C.1 hM ⟨(callB_of as.length C.1.2.2.2.2 (jl_goodT (pre := []) (fun w hw => nomatch hw) wc) (by rw [hcw]) rfl rfl (C.1.2.2.2.2 _ wi) (C.1.2.2.2.2 _ w1) hy ⟨hfr, hlo⟩), C.1.2.2.2.2 _ w2⟩ (jl_pre (as := as) hK hR) (g := F0 m pc ls ((as.reverse ++ st).map (jl_v G.2.2.1 al))) (locs := locs) (cells := cells) (slots := slots) (below := below) (e := e) (meth := meth) rfl (by rw [List.length_map]) hl.1 (by rw [List.map_append, List.map_reverse]) (lv_room (by rw [jl_cats]; exact hc)) hd ⟨by omega, by omega⟩
  refine jl_run hrun hR.2.2.1 (fun r n' h' al' H' locs' hk hE' hR' hro => ?_) (fun E ce q n' h' al' H' locs' hk hE' hR' hce hcv hcl => ?_)
  · have h9 := hk p e R s m args below meth c al0 n0 mc ms al' H' locs' ls (cells + ck') (slots + sk') C hR' ⟨Nat.le_trans hE.1 hE'.1, fun i hi => (hE'.2 i (Nat.lt_of_lt_of_le hi hE.1)).trans (hE.2 i hi)⟩ (hl.ext hE'.1 hE'.2) (jl_oks_app hro (jl_oks_mono hE'.1 hoa.2)) (by omega) (by omega)
    rw [List.map_append, jl_oks_map hE'.2 hoa.2] at h9
    cases r <;> exact h9
  · exact hk.elim
theorem jl_invSN0 {M' : jl_M} {ix d' ck' sk' na : Nat} {host : String} {as stk : List Value} (hd : decode M.2.1 pc = .ok (.invokestatic ix, 3)) (hstk : stk = as.reverse ++ st) (w1 : Cond.methodLinkNest M.1.cls ix M'.1 host ∈ jl_N) (w2 : Cond.static M'.1 ∈ jl_T) (wi : Cond.initialized M'.1.cls ∈ jl_T) (wc : jl_cw M' ∈ jl_T) (hh' : M'.2.2.2.2 = []) (hna : as.length = na) (hy : M'.1.cls ≠ "java/lang/invoke/MethodHandle" ∧ M'.1.cls ≠ "java/lang/invoke/VarHandle" ∧ (parseMethodDescriptor M'.1.desc).map (fun d => d.parameters.length) = some na) (hd' : d' < d) (hml : M'.2.2.1 ≤ 45) (hc : (st.map fun v => v.category).sum ≤ 8)
    (k : jl_Call l G M' d' as n h ck' sk' (fun r n' h' => jl_AW l G F M d (pc + 3) L (r.toList ++ st) n' h' ck sk) (fun _ _ _ => False)) : jl_AW l G F M d pc L stk n h (ck + ck') (sk + sk') := by
  intro p e R s m args below meth c al0 n0 mc ms al H locs ls cells slots C hR hE hl hs h1 h2
  obtain ⟨hK, hF1, hF2, hF3, hF4⟩ := id C.2.2.2.2.2.2
  subst hstk
  subst hna
  have hoa : jl_oks n as ∧ jl_oks n st := jl_oks_call hs
  have hM := jl_noX (k al hR.2.1 hR.2.2.2 hoa.1)
  have hcw : jl_cw M' = .code M'.1 M'.2.1 M'.2.2.1 M'.2.2.2.1 := by unfold jl_cw; rw [hh']
  have hfr : (jl_rm d' ck' sk').frames + 1 ≤ R.frames := by have q9 := jl_rm_fr d' ck' sk'; omega
  have hlo : 8 + (M'.2.2.1 + 11) + (jl_rm d' ck' sk').locals ≤ R.locals := by have q9 := jl_rm_lo d' ck' sk'; omega
  have hrun := va_runSN (host := host) (As := as.map (jl_v G.2.2.1 al)) (rest := st.map (jl_v G.2.2.1 al)) C.1 hM ⟨(va_cnB (host := host) as.length C.1.2.2.2.2 (jl_goodT (pre := []) (fun w hw => nomatch hw) wc) (by rw [hcw]) rfl rfl (hK.2.1 _ w1) (C.1.2.2.2.2 _ wi) hy ⟨hfr, hlo⟩), C.1.2.2.2.2 _ w2, trivial⟩ (jl_pre (as := as) hK hR) (g := F0 m pc ls ((as.reverse ++ st).map (jl_v G.2.2.1 al))) (locs := locs) (cells := cells) (slots := slots) (below := below) (e := e) (meth := meth) rfl (by rw [List.length_map]) hl.1 (by rw [List.map_append, List.map_reverse]) (lv_room (by rw [jl_cats]; exact hc)) hd ⟨by omega, by omega⟩
  refine jl_runM hrun hR.2.2.1 (fun r n' h' al' H' locs' hk hE' hR' hro => ?_)
  · have h9 := hk p e R s m args below meth c al0 n0 mc ms al' H' locs' ls (cells + ck') (slots + sk') C hR' ⟨Nat.le_trans hE.1 hE'.1, fun i hi => (hE'.2 i (Nat.lt_of_lt_of_le hi hE.1)).trans (hE.2 i hi)⟩ (hl.ext hE'.1 hE'.2) (jl_oks_app hro (jl_oks_mono hE'.1 hoa.2)) (by omega) (by omega)
    rw [List.map_append, jl_oks_map hE'.2 hoa.2] at h9
    cases r <;> exact h9
theorem jl_invI0 {M' : jl_M} {ix d' ck' sk' na : Nat} {x : Nat} {as stk : List Value} (hd : decode M.2.1 pc = .ok (.invokespecial ix, 3)) (hstk : stk = as.reverse ++ .ref x :: st) (w1 : Cond.methodLink M.1.cls ix M'.1 ∈ jl_T) (w2 : Cond.instanceMethod M'.1 ∈ jl_T) (w3 : M'.1.name = "<init>") (wi : Cond.initialized M'.1.cls ∈ jl_T) (wc : jl_cw M' ∈ jl_T) (hret : M'.2.2.2.1 = none) (hh' : M'.2.2.2.2 = []) (hna : as.length = na) (hy : M'.1.cls ≠ "java/lang/invoke/MethodHandle" ∧ M'.1.cls ≠ "java/lang/invoke/VarHandle" ∧ (parseMethodDescriptor M'.1.desc).map (fun d => d.parameters.length) = some na) (hd' : d' < d) (hml : M'.2.2.1 ≤ 45) (hc : (st.map fun v => v.category).sum ≤ 8)
    (k : jl_Call l G M' d' (.ref x :: as) n h ck' sk' (fun r n' h' => jl_AW l G F M d (pc + 3) L (r.toList ++ st) n' h' ck sk) (fun _ _ _ => False)) : jl_AW l G F M d pc L stk n h (ck + ck') (sk + sk') := by
  intro p e R s m args below meth c al0 n0 mc ms al H locs ls cells slots C hR hE hl hs h1 h2
  obtain ⟨hK, hF1, hF2, hF3, hF4⟩ := id C.2.2.2.2.2.2
  subst hstk
  subst hna
  have hoa : jl_oks n (.ref x :: as) ∧ jl_oks n st := jl_oks_callR hs
  have hM := jl_noX (k al hR.2.1 hR.2.2.2 hoa.1)
  have hcw : jl_cw M' = .code M'.1 M'.2.1 M'.2.2.1 M'.2.2.2.1 := by unfold jl_cw; rw [hh']
  have hfr : (jl_rm d' ck' sk').frames + 1 ≤ R.frames := by have q9 := jl_rm_fr d' ck' sk'; omega
  have hlo : 8 + (M'.2.2.1 + 11) + (jl_rm d' ck' sk').locals ≤ R.locals := by have q9 := jl_rm_lo d' ck' sk'; omega
  have hrun := va_runI (As := as.map (jl_v G.2.2.1 al)) (rest := st.map (jl_v G.2.2.1 al)) C.1 hM ⟨(callB_of as.length C.1.2.2.2.2 (jl_goodT (pre := []) (fun w hw => nomatch hw) wc) (by rw [hcw, hret]) rfl rfl (C.1.2.2.2.2 _ wi) (C.1.2.2.2.2 _ w1) hy ⟨hfr, hlo⟩), w3, C.1.2.2.2.2 _ w2⟩ (jl_pre (as := .ref x :: as) hK hR) (g := F0 m pc ls ((as.reverse ++ .ref x :: st).map (jl_v G.2.2.1 al))) (locs := locs) (cells := cells) (slots := slots) (below := below) (e := e) (meth := meth) rfl (by rw [List.length_map]) hl.1 (by rw [List.map_append, List.map_reverse, List.map_cons]; rfl) (lv_room (by rw [jl_cats]; exact hc)) hd ⟨by omega, by omega⟩
  refine jl_runM hrun hR.2.2.1 (fun r n' h' al' H' locs' hk hE' hR' hro => ?_)
  · have h9 := hk p e R s m args below meth c al0 n0 mc ms al' H' locs' ls (cells + ck') (slots + sk') C hR' ⟨Nat.le_trans hE.1 hE'.1, fun i hi => (hE'.2 i (Nat.lt_of_lt_of_le hi hE.1)).trans (hE.2 i hi)⟩ (hl.ext hE'.1 hE'.2) (jl_oks_app hro (jl_oks_mono hE'.1 hoa.2)) (by omega) (by omega)
    rw [List.map_append, jl_oks_map hE'.2 hoa.2] at h9
    cases r <;> exact h9
theorem jl_invIN0 {M' : jl_M} {ix d' ck' sk' na : Nat} {x : Nat} {host : String} {as stk : List Value} (hd : decode M.2.1 pc = .ok (.invokespecial ix, 3)) (hstk : stk = as.reverse ++ .ref x :: st) (w1 : Cond.methodLinkNest M.1.cls ix M'.1 host ∈ jl_N) (w2 : Cond.instanceMethod M'.1 ∈ jl_T) (w3 : M'.1.name = "<init>") (wi : Cond.initialized M'.1.cls ∈ jl_T) (wc : jl_cw M' ∈ jl_T) (hret : M'.2.2.2.1 = none) (hh' : M'.2.2.2.2 = []) (hna : as.length = na) (hy : M'.1.cls ≠ "java/lang/invoke/MethodHandle" ∧ M'.1.cls ≠ "java/lang/invoke/VarHandle" ∧ (parseMethodDescriptor M'.1.desc).map (fun d => d.parameters.length) = some na) (hd' : d' < d) (hml : M'.2.2.1 ≤ 45) (hc : (st.map fun v => v.category).sum ≤ 8)
    (k : jl_Call l G M' d' (.ref x :: as) n h ck' sk' (fun r n' h' => jl_AW l G F M d (pc + 3) L (r.toList ++ st) n' h' ck sk) (fun _ _ _ => False)) : jl_AW l G F M d pc L stk n h (ck + ck') (sk + sk') := by
  intro p e R s m args below meth c al0 n0 mc ms al H locs ls cells slots C hR hE hl hs h1 h2
  obtain ⟨hK, hF1, hF2, hF3, hF4⟩ := id C.2.2.2.2.2.2
  subst hstk
  subst hna
  have hoa : jl_oks n (.ref x :: as) ∧ jl_oks n st := jl_oks_callR hs
  have hM := jl_noX (k al hR.2.1 hR.2.2.2 hoa.1)
  have hcw : jl_cw M' = .code M'.1 M'.2.1 M'.2.2.1 M'.2.2.2.1 := by unfold jl_cw; rw [hh']
  have hfr : (jl_rm d' ck' sk').frames + 1 ≤ R.frames := by have q9 := jl_rm_fr d' ck' sk'; omega
  have hlo : 8 + (M'.2.2.1 + 11) + (jl_rm d' ck' sk').locals ≤ R.locals := by have q9 := jl_rm_lo d' ck' sk'; omega
  have hrun := va_runIN (host := host) (As := as.map (jl_v G.2.2.1 al)) (rest := st.map (jl_v G.2.2.1 al)) C.1 hM ⟨(va_cnB (host := host) as.length C.1.2.2.2.2 (jl_goodT (pre := []) (fun w hw => nomatch hw) wc) (by rw [hcw, hret]) rfl rfl (hK.2.1 _ w1) (C.1.2.2.2.2 _ wi) hy ⟨hfr, hlo⟩), w3, C.1.2.2.2.2 _ w2⟩ (jl_pre (as := .ref x :: as) hK hR) (g := F0 m pc ls ((as.reverse ++ .ref x :: st).map (jl_v G.2.2.1 al))) (locs := locs) (cells := cells) (slots := slots) (below := below) (e := e) (meth := meth) rfl (by rw [List.length_map]) hl.1 (by rw [List.map_append, List.map_reverse, List.map_cons]; rfl) (lv_room (by rw [jl_cats]; exact hc)) hd ⟨by omega, by omega⟩
  refine jl_runM hrun hR.2.2.1 (fun r n' h' al' H' locs' hk hE' hR' hro => ?_)
  · have h9 := hk p e R s m args below meth c al0 n0 mc ms al' H' locs' ls (cells + ck') (slots + sk') C hR' ⟨Nat.le_trans hE.1 hE'.1, fun i hi => (hE'.2 i (Nat.lt_of_lt_of_le hi hE.1)).trans (hE.2 i hi)⟩ (hl.ext hE'.1 hE'.2) (jl_oks_app hro (jl_oks_mono hE'.1 hoa.2)) (by omega) (by omega)
    rw [List.map_append, jl_oks_map hE'.2 hoa.2] at h9
    cases r <;> exact h9
theorem jl_args {sb : Nat} {al : Nat → Nat} : ∀ (as : List Value) (i0 : Nat), (∀ v ∈ as, v.category = 1) → ∀ (i : Nat) (v : Value), as[i]? = some v → (i0 + i, jl_v sb al v) ∈ lv_args i0 (as.map (jl_v sb al))
  | [], _, _, i, v, h => by simp at h
  | a :: as, i0, hc, 0, v, h => by
    simp at h
    subst h
    exact List.mem_cons_self
  | a :: as, i0, hc, i + 1, v, h => by
    have h1 := jl_args (sb := sb) (al := al) as (i0 + 1) (fun v hv => hc v (List.mem_cons_of_mem _ hv)) i v (by simpa using h)
    have h2 : ¬ (jl_v sb al a).category = 2 := by rw [jl_cat, hc a List.mem_cons_self]; decide
    show _ ∈ (i0, jl_v sb al a) :: lv_args (if (jl_v sb al a).category = 2 then i0 + 2 else i0 + 1) (as.map (jl_v sb al))
    rw [if_neg h2]
    have e1 : i0 + (i + 1) = i0 + 1 + i := by omega
    rw [e1]
    exact List.mem_cons_of_mem _ h1
theorem jl_sl : ∀ (as : List Value), (∀ v ∈ as, v.category = 1) → (lg_sl as).length = as.length
  | [], _ => rfl
  | a :: as, hc => by
    have h1 := jl_sl as (fun v hv => hc v (List.mem_cons_of_mem _ hv))
    have h2 := hc a List.mem_cons_self
    unfold lg_sl at h1 ⊢
    simp [h2, h1]
/-- A CONTRACT out of the walk of the body -/
theorem jl_enter {as : List Value} {Kr : Option Value → Nat → (Nat → va_E) → Prop} {Kx : String → Nat → (Nat → va_E) → Prop} (hl9 : l.stackTraces = false) (hy : plainName M.1.cls = true) (hh : M.2.2.2.2 = []) (hca : ∀ v ∈ as, v.category = 1) (hn9 : as.length ≤ M.2.2.1)
    (k : jl_AW l G (jl_F G Kr Kx) M d 0 (as.map some ++ List.replicate (M.2.2.1 - as.length) none) [] n h ck sk) : jl_Call l G M d as n h ck sk Kr Kx := by
  intro al hD hok hoa
  have hcw : jl_cw M = .code M.1 M.2.1 M.2.2.1 M.2.2.2.1 := by unfold jl_cw; rw [hh]
  refine vx_ofW (cc := M.2.1) (maxL := M.2.2.1) (ret := M.2.2.2.1) (ws' := jl_T) hy (by rw [hcw]) ?_
  intro p e s m args below meth c s₁ B hml htab hv
  obtain ⟨rfl, hK, hP⟩ := hv
  have hts : ∀ w ∈ jl_T, w.before (as.map (jl_v G.2.2.1 al)).toArray s = true := fun w hw => atoms_spec (ws := jl_cw M :: jl_T) B.pre w (List.mem_cons_of_mem _ hw)
  have C : jl_C l G M d p (headSpec (jl_cw M :: jl_T) (jl_rm d ck sk)).room s m (as.map (jl_v G.2.2.1 al)).toArray meth c ck sk := by
    refine ⟨⟨B.exec, B.bytes, hml, findClass_of_methodNamed B.named, hts⟩, B.returns, B.notSynchronized, (name_of_methodNamed B.named B.method).1, ?_, hl9, hK, Nat.le_refl _, Nat.le_refl _, Nat.le_refl _, Nat.le_refl _⟩
    rw [hh]
    exact List.eq_nil_iff_forall_not_mem.mpr fun x hx => htab x hx
  have hcm : ∀ v ∈ as.map (jl_v G.2.2.1 al), v.category = 1 := by
    intro v hv
    obtain ⟨u, hu, rfl⟩ := List.mem_map.mp hv
    rw [jl_cat]
    exact hca u hu
  have hlv := lv_entry (as.map (jl_v G.2.2.1 al)) (n := M.2.2.1) (by rw [jl_sl _ hcm, List.length_map]; exact hn9)
  rw [lg_entry_eq]
  generalize (lg_sl (as.map (jl_v G.2.2.1 al)) ++ List.replicate (M.2.2.1 - (lg_sl (as.map (jl_v G.2.2.1 al))).length) Slot.unset).toArray = ls at hlv ⊢
  refine k p e _ s m _ below meth c al n ck sk al s.heap [] ls 0 0 C ⟨hP, hD, va_S.rf, hok⟩ ⟨Nat.le_refl _, fun _ _ => rfl⟩ ⟨hlv.1, hlv.2.1, fun i v hi => ?_⟩ trivial (by omega) (by omega)
  have hi2 : as[i]? = some v := by
    by_cases e1 : i < as.length
    · rw [List.getElem?_append_left (by rw [List.length_map]; exact e1), List.getElem?_map] at hi
      cases h9 : as[i]? with
      | none => rw [h9] at hi; cases hi
      | some u => rw [h9] at hi; cases hi; rfl
    · rw [List.getElem?_append_right (by rw [List.length_map]; omega)] at hi
      rw [List.getElem?_replicate] at hi
      split at hi <;> cases hi
  have hm := jl_args (sb := G.2.2.1) (al := al) as 0 hca i v hi2
  rw [Nat.zero_add] at hm
  exact ⟨hlv.2.2 _ hm, jl_oks_mem.mp hoa v (List.mem_of_getElem? hi2), hca v (List.mem_of_getElem? hi2)⟩
end JL
end
section
/-! NUMBERS: an int of the machine by a whole number -/
def zI (a : Int) : Int32 := Int32.ofInt a
abbrev zR (a : Int) : Prop := -2147483648 ≤ a ∧ a < 2147483648
theorem zI_t {a : Int} (h : zR a) : (zI a).toInt = a := Int32.toInt_ofInt_of_le (by have := h.1; omega) (by have := h.2; omega)
theorem zI_of (x : Int32) : zI x.toInt = x := Int32.ofInt_toInt x
theorem zI_ex (x : Int32) : ∃ a : Int, zR a ∧ x = zI a := ⟨x.toInt, ⟨x.le_toInt, x.toInt_lt⟩, (zI_of x).symm⟩
theorem zI_add (a b : Int) : zI a + zI b = zI (a + b) := (Int32.ofInt_add a b).symm
theorem zI_sub (a b : Int) : zI a - zI b = zI (a - b) := (Int32.ofInt_sub a b).symm
theorem zI_mul (a b : Int) : zI a * zI b = zI (a * b) := (Int32.ofInt_mul a b).symm
theorem zI_neg (a : Int) : -zI a = zI (-a) := (Int32.ofInt_neg a).symm
theorem zI_lt {a b : Int} (ha : zR a) (hb : zR b) : zI a < zI b ↔ a < b := by rw [Int32.lt_iff_toInt_lt, zI_t ha, zI_t hb]
theorem zI_le {a b : Int} (ha : zR a) (hb : zR b) : zI a ≤ zI b ↔ a ≤ b := by rw [Int32.le_iff_toInt_le, zI_t ha, zI_t hb]
theorem zI_eq {a b : Int} (ha : zR a) (hb : zR b) : zI a = zI b ↔ a = b := ⟨fun h => by have h1 := congrArg Int32.toInt h; rwa [zI_t ha, zI_t hb] at h1, fun h => by rw [h]⟩
theorem zI_cl {a : Int} (h : zR a) : (zI a).toNatClampNeg = a.toNat := congrArg Int.toNat (zI_t h)
theorem zI_in {a : Int} {n : Nat} (h0 : 0 ≤ a) (h1 : a < n) (hn : n < 2147483648) : vp_in (zI a) n := vp_in_iff.mpr (by rw [zI_t ⟨by omega, by omega⟩]; exact ⟨h0, h1⟩)
theorem zI_tdiv {a b : Int} (ha : -2147483648 < a ∧ a < 2147483648) (hb : zR b) (h0 : b ≠ 0) : zI a / zI b = zI (a.tdiv b) := by
  have ha' : zR a := ⟨by omega, by omega⟩
  apply Int32.toInt_inj.mp
  have hne : zI a ≠ Int32.minValue := fun q => by
    have q1 := congrArg Int32.toInt q
    rw [zI_t ha'] at q1
    have q2 : Int32.minValue.toInt = -2147483648 := by decide
    omega
  rw [Int32.toInt_div_of_ne_left _ _ hne, zI_t ha', zI_t hb]
  have hn : (a.tdiv b).natAbs ≤ a.natAbs := by
    rw [Int.natAbs_tdiv]
    exact Nat.div_le_self _ _
  rw [zI_t]
  omega
theorem zI_tmod {a b : Int} (ha : -2147483648 < a ∧ a < 2147483648) (hb : zR b) (h0 : b ≠ 0) : zI a - zI a / zI b * zI b = zI (a.tmod b) := by
  rw [zI_tdiv ha hb h0, zI_mul, zI_sub]
  congr 1
  rw [Int.tmod_def, Int.mul_comm]
theorem zI_odd (b : Int) (_ : zR b) : zI b &&& zI 1 = zI (b % 2) := by
  rw [pk_and (zI b) (m := zI 1) 1 (by decide)]
  have e : (zI b).toBitVec.toNat = (b % 4294967296).toNat := by
    show (BitVec.ofInt 32 b).toNat = _
    rw [BitVec.toNat_ofInt]
    rfl
  rw [e]
  show Int32.ofNat _ = Int32.ofInt _
  rw [← Int32.ofInt_eq_ofNat]
  congr 1
  omega
theorem jn_tmod (b : Int) {p : Int} (hp : 1 ≤ p) : (0 ≤ b.tmod p → b.tmod p = b % p) ∧ (¬ 0 ≤ b.tmod p → b.tmod p + p = b % p) := by
  have h := Int.tmod_eq_emod (a := b) (b := p)
  have h0 := Int.emod_nonneg b (show p ≠ 0 by omega)
  have h1 := Int.emod_lt_of_pos b (show 0 < p by omega)
  have hn : (p.natAbs : Int) = p := Int.natAbs_of_nonneg (by omega)
  split at h <;> constructor <;> intro _ <;> omega
theorem zI_upd (f : Nat → Int) (k : Nat) (v : Int) : upd (fun j => zI (f j)) k (zI v) = fun j => zI (va_up f k v j) := by
  funext j
  by_cases h : j = k
  · subst h; rw [pk_us, va_up_self]
  · rw [pk_un h, va_up_ne _ _ h]
section JZ
variable {l : Launch} {G : jl_G} {F : List Frame → Array Value → State → Nat → Nat → (Nat → Nat) → Nat → State → Prop} {M : jl_M} {d pc : Nat} {L : List (Option Value)} {st : List Value} {n : Nat} {h : Nat → va_E} {ck sk : Nat}
theorem jz_int {x v : Int32} (hv : x = v) (k : jl_AW l G F M d pc L (.int v :: st) n h ck sk) : jl_AW l G F M d pc L (.int x :: st) n h ck sk := hv ▸ k
theorem jz_iadd {a b v : Int} (hd : decode M.2.1 pc = .ok (.iadd, 1)) (hv : a + b = v) (k : jl_AW l G F M d (pc + 1) L (.int (zI v) :: st) n h ck sk) : jl_AW l G F M d pc L (.int (zI b) :: .int (zI a) :: st) n h ck sk := jl_iadd hd (jz_int (by rw [zI_add, hv]) k)
theorem jz_isub {a b v : Int} (hd : decode M.2.1 pc = .ok (.isub, 1)) (hv : a - b = v) (k : jl_AW l G F M d (pc + 1) L (.int (zI v) :: st) n h ck sk) : jl_AW l G F M d pc L (.int (zI b) :: .int (zI a) :: st) n h ck sk := jl_isub hd (jz_int (by rw [zI_sub, hv]) k)
theorem jz_imul {a b v : Int} (hd : decode M.2.1 pc = .ok (.imul, 1)) (hv : a * b = v) (k : jl_AW l G F M d (pc + 1) L (.int (zI v) :: st) n h ck sk) : jl_AW l G F M d pc L (.int (zI b) :: .int (zI a) :: st) n h ck sk := jl_imul hd (jz_int (by rw [zI_mul, hv]) k)
theorem jz_ineg {a v : Int} (hd : decode M.2.1 pc = .ok (.ineg, 1)) (hv : -a = v) (k : jl_AW l G F M d (pc + 1) L (.int (zI v) :: st) n h ck sk) : jl_AW l G F M d pc L (.int (zI a) :: st) n h ck sk := jl_ineg hd (jz_int (by rw [zI_neg, hv]) k)
theorem jz_iinc {i : Nat} {c a v : Int} {L' : List (Option Value)} (hd : decode M.2.1 pc = .ok (.iinc i c, 3)) (hx : L[i]? = some (some (.int (zI a)))) (hv : a + c = v) (hn : i < M.2.2.1) (hL : L.set i (some (.int (zI v))) = L') (k : jl_AW l G F M d (pc + 3) L' st n h ck sk) : jl_AW l G F M d pc L st n h ck sk := jl_iinc hd hx (by rw [← hv]; exact zI_add a c) hn hL k
theorem jz_idiv {a b v : Int} (hd : decode M.2.1 pc = .ok (.idiv, 1)) (ha : -2147483648 < a ∧ a < 2147483648) (hb : zR b) (h0 : b ≠ 0) (hv : a.tdiv b = v) (k : jl_AW l G F M d (pc + 1) L (.int (zI v) :: st) n h ck sk) : jl_AW l G F M d pc L (.int (zI b) :: .int (zI a) :: st) n h ck sk := jl_idiv hd (fun q => h0 ((zI_eq hb ⟨by decide, by decide⟩).mp q)) (jz_int (by rw [zI_tdiv ha hb h0, hv]) k)
theorem jz_irem {a b v : Int} (hd : decode M.2.1 pc = .ok (.irem, 1)) (ha : -2147483648 < a ∧ a < 2147483648) (hb : zR b) (h0 : b ≠ 0) (hv : a.tmod b = v) (k : jl_AW l G F M d (pc + 1) L (.int (zI v) :: st) n h ck sk) : jl_AW l G F M d pc L (.int (zI b) :: .int (zI a) :: st) n h ck sk := jl_irem hd (fun q => h0 ((zI_eq hb ⟨by decide, by decide⟩).mp q)) (jz_int (by rw [zI_tmod ha hb h0, hv]) k)
theorem jz_icmp_eq {a b : Int} {off : Int} {tgt : Nat} (hd : decode M.2.1 pc = .ok (.if_icmp .eq off, 3)) (ht : (pc : Int) + off = (tgt : Int)) (ra : zR a) (rb : zR b) (kt : a = b → jl_AW l G F M d tgt L st n h ck sk) (kf : ¬ (a = b) → jl_AW l G F M d (pc + 3) L st n h ck sk) : jl_AW l G F M d pc L (.int (zI b) :: .int (zI a) :: st) n h ck sk := jl_icmp_eq hd ht (fun q => kt ((zI_eq ra rb).mp q)) (fun q => kf fun w => q ((zI_eq ra rb).mpr w))
theorem jz_if_eq {a : Int} {off : Int} {tgt : Nat} (hd : decode M.2.1 pc = .ok (.ifCond .eq off, 3)) (ht : (pc : Int) + off = (tgt : Int)) (ra : zR a) (kt : a = 0 → jl_AW l G F M d tgt L st n h ck sk) (kf : ¬ (a = 0) → jl_AW l G F M d (pc + 3) L st n h ck sk) : jl_AW l G F M d pc L (.int (zI a) :: st) n h ck sk := by
  have rb : zR 0 := ⟨by decide, by decide⟩
  exact jl_if_eq hd ht (fun q => kt ((zI_eq ra rb).mp q)) (fun q => kf fun w => q ((zI_eq ra rb).mpr w))
theorem jz_icmp_ne {a b : Int} {off : Int} {tgt : Nat} (hd : decode M.2.1 pc = .ok (.if_icmp .ne off, 3)) (ht : (pc : Int) + off = (tgt : Int)) (ra : zR a) (rb : zR b) (kt : ¬ a = b → jl_AW l G F M d tgt L st n h ck sk) (kf : a = b → jl_AW l G F M d (pc + 3) L st n h ck sk) : jl_AW l G F M d pc L (.int (zI b) :: .int (zI a) :: st) n h ck sk := by
  have rc : zR (b) := rb
  exact jl_icmp_ne hd ht (fun q => kt fun w => q ((zI_eq ra rc).mpr w)) (fun q => kf ((zI_eq ra rc).mp q))
theorem jz_if_ne {a : Int} {off : Int} {tgt : Nat} (hd : decode M.2.1 pc = .ok (.ifCond .ne off, 3)) (ht : (pc : Int) + off = (tgt : Int)) (ra : zR a) (kt : ¬ a = 0 → jl_AW l G F M d tgt L st n h ck sk) (kf : a = 0 → jl_AW l G F M d (pc + 3) L st n h ck sk) : jl_AW l G F M d pc L (.int (zI a) :: st) n h ck sk := by
  have rc : zR (0) := ⟨by decide, by decide⟩
  exact jl_if_ne hd ht (fun q => kt fun w => q ((zI_eq ra rc).mpr w)) (fun q => kf ((zI_eq ra rc).mp q))
theorem jz_icmp_lt {a b : Int} {off : Int} {tgt : Nat} (hd : decode M.2.1 pc = .ok (.if_icmp .lt off, 3)) (ht : (pc : Int) + off = (tgt : Int)) (ra : zR a) (rb : zR b) (kt : a < b → jl_AW l G F M d tgt L st n h ck sk) (kf : ¬ (a < b) → jl_AW l G F M d (pc + 3) L st n h ck sk) : jl_AW l G F M d pc L (.int (zI b) :: .int (zI a) :: st) n h ck sk := jl_icmp_lt hd ht (fun q => kt ((zI_lt ra rb).mp q)) (fun q => kf fun w => q ((zI_lt ra rb).mpr w))
theorem jz_if_lt {a : Int} {off : Int} {tgt : Nat} (hd : decode M.2.1 pc = .ok (.ifCond .lt off, 3)) (ht : (pc : Int) + off = (tgt : Int)) (ra : zR a) (kt : a < 0 → jl_AW l G F M d tgt L st n h ck sk) (kf : ¬ (a < 0) → jl_AW l G F M d (pc + 3) L st n h ck sk) : jl_AW l G F M d pc L (.int (zI a) :: st) n h ck sk := by
  have rb : zR 0 := ⟨by decide, by decide⟩
  exact jl_if_lt hd ht (fun q => kt ((zI_lt ra rb).mp q)) (fun q => kf fun w => q ((zI_lt ra rb).mpr w))
theorem jz_icmp_ge {a b : Int} {off : Int} {tgt : Nat} (hd : decode M.2.1 pc = .ok (.if_icmp .ge off, 3)) (ht : (pc : Int) + off = (tgt : Int)) (ra : zR a) (rb : zR b) (kt : b ≤ a → jl_AW l G F M d tgt L st n h ck sk) (kf : ¬ (b ≤ a) → jl_AW l G F M d (pc + 3) L st n h ck sk) : jl_AW l G F M d pc L (.int (zI b) :: .int (zI a) :: st) n h ck sk := jl_icmp_ge hd ht (fun q => kt ((zI_le rb ra).mp q)) (fun q => kf fun w => q ((zI_le rb ra).mpr w))
theorem jz_if_ge {a : Int} {off : Int} {tgt : Nat} (hd : decode M.2.1 pc = .ok (.ifCond .ge off, 3)) (ht : (pc : Int) + off = (tgt : Int)) (ra : zR a) (kt : 0 ≤ a → jl_AW l G F M d tgt L st n h ck sk) (kf : ¬ (0 ≤ a) → jl_AW l G F M d (pc + 3) L st n h ck sk) : jl_AW l G F M d pc L (.int (zI a) :: st) n h ck sk := by
  have rb : zR 0 := ⟨by decide, by decide⟩
  exact jl_if_ge hd ht (fun q => kt ((zI_le rb ra).mp q)) (fun q => kf fun w => q ((zI_le rb ra).mpr w))
theorem jz_icmp_gt {a b : Int} {off : Int} {tgt : Nat} (hd : decode M.2.1 pc = .ok (.if_icmp .gt off, 3)) (ht : (pc : Int) + off = (tgt : Int)) (ra : zR a) (rb : zR b) (kt : b < a → jl_AW l G F M d tgt L st n h ck sk) (kf : ¬ (b < a) → jl_AW l G F M d (pc + 3) L st n h ck sk) : jl_AW l G F M d pc L (.int (zI b) :: .int (zI a) :: st) n h ck sk := jl_icmp_gt hd ht (fun q => kt ((zI_lt rb ra).mp q)) (fun q => kf fun w => q ((zI_lt rb ra).mpr w))
theorem jz_if_gt {a : Int} {off : Int} {tgt : Nat} (hd : decode M.2.1 pc = .ok (.ifCond .gt off, 3)) (ht : (pc : Int) + off = (tgt : Int)) (ra : zR a) (kt : 0 < a → jl_AW l G F M d tgt L st n h ck sk) (kf : ¬ (0 < a) → jl_AW l G F M d (pc + 3) L st n h ck sk) : jl_AW l G F M d pc L (.int (zI a) :: st) n h ck sk := by
  have rb : zR 0 := ⟨by decide, by decide⟩
  exact jl_if_gt hd ht (fun q => kt ((zI_lt rb ra).mp q)) (fun q => kf fun w => q ((zI_lt rb ra).mpr w))
theorem jz_icmp_le {a b : Int} {off : Int} {tgt : Nat} (hd : decode M.2.1 pc = .ok (.if_icmp .le off, 3)) (ht : (pc : Int) + off = (tgt : Int)) (ra : zR a) (rb : zR b) (kt : a ≤ b → jl_AW l G F M d tgt L st n h ck sk) (kf : ¬ (a ≤ b) → jl_AW l G F M d (pc + 3) L st n h ck sk) : jl_AW l G F M d pc L (.int (zI b) :: .int (zI a) :: st) n h ck sk := jl_icmp_le hd ht (fun q => kt ((zI_le ra rb).mp q)) (fun q => kf fun w => q ((zI_le ra rb).mpr w))
theorem jz_if_le {a : Int} {off : Int} {tgt : Nat} (hd : decode M.2.1 pc = .ok (.ifCond .le off, 3)) (ht : (pc : Int) + off = (tgt : Int)) (ra : zR a) (kt : a ≤ 0 → jl_AW l G F M d tgt L st n h ck sk) (kf : ¬ (a ≤ 0) → jl_AW l G F M d (pc + 3) L st n h ck sk) : jl_AW l G F M d pc L (.int (zI a) :: st) n h ck sk := by
  have rb : zR 0 := ⟨by decide, by decide⟩
  exact jl_if_le hd ht (fun q => kt ((zI_le ra rb).mp q)) (fun q => kf fun w => q ((zI_le ra rb).mpr w))
theorem jz_iald {x k9 : Nat} {g : Nat → Int} {a : Int} (hd : decode M.2.1 pc = .ok (.iaload, 1)) (he : h x = jI k9 (fun j => zI (g j))) (h0 : 0 ≤ a) (h1 : a < k9) (hk : k9 < 2147483648) (k : jl_AW l G F M d (pc + 1) L (.int (zI (g a.toNat)) :: st) n h ck sk) : jl_AW l G F M d pc L (.int (zI a) :: .ref x :: st) n h ck sk := jl_iald hd he (zI_in h0 h1 hk) (jz_int (by rw [zI_cl ⟨by omega, by omega⟩]) k)
theorem jz_iast {x k9 : Nat} {g : Nat → Int} {a v : Int} (hd : decode M.2.1 pc = .ok (.iastore, 1)) (he : h x = jI k9 (fun j => zI (g j))) (h0 : 0 ≤ a) (h1 : a < k9) (hk : k9 < 2147483648) (k : jl_AW l G F M d (pc + 1) L st n (va_up h x (jI k9 (fun j => zI (va_up g a.toNat v j)))) ck sk) : jl_AW l G F M d pc L (.int (zI v) :: .int (zI a) :: .ref x :: st) n h ck sk := jl_iast hd he (zI_in h0 h1 hk) (by rw [zI_cl ⟨by omega, by omega⟩, zI_upd]; exact k)
theorem jz_iasth {x k9 : Nat} {g : Nat → Int} {a v : Int} (hd : decode M.2.1 pc = .ok (.iastore, 1)) (he : h x = jI k9 (fun j => zI (g j))) (h0 : 0 ≤ a) (h1 : a < k9) (hk : k9 < 2147483648) (k : ∀ h2, h2 = va_up h x (jI k9 (fun j => zI (va_up g a.toNat v j))) → jl_AW l G F M d (pc + 1) L st n h2 ck sk) : jl_AW l G F M d pc L (.int (zI v) :: .int (zI a) :: .ref x :: st) n h ck sk := jz_iast hd he h0 h1 hk (k _ rfl)
end JZ
end
section
def m_St_init : jl_M := (y_St_init, b_St_init, 1, none, [])
def m_Dr_init : jl_M := (y_Dr_init, b_Dr_init, 1, none, [])
def m_Jo_init : jl_M := (y_Jo_init, b_Jo_init, 1, none, [])
def m_Cn_init : jl_M := (y_Cn_init, b_Cn_init, 1, none, [])
def m_Cy_init : jl_M := (y_Cy_init, b_Cy_init, 1, none, [])
def m_Sg_init : jl_M := (y_Sg_init, b_Sg_init, 1, none, [])
def m_St_valid : jl_M := (y_St_valid, b_St_valid, 1, (some .boolean), [])
def m_Dr_isValid : jl_M := (y_Dr_isValid, b_Dr_isValid, 1, (some .boolean), [])
def m_Dr_firstClash : jl_M := (y_Dr_firstClash, b_Dr_firstClash, 1, (some .int), [])
def m_Ar_fill : jl_M := (y_Ar_fill, b_Ar_fill, 4, none, [])
def m_Dr_firstUneven : jl_M := (y_Dr_firstUneven, b_Dr_firstUneven, 4, (some .int), [])
def m_Dr_heightOf : jl_M := (y_Dr_heightOf, b_Dr_heightOf, 3, (some .int), [])
def m_Dr_landingSite : jl_M := (y_Dr_landingSite, b_Dr_landingSite, 5, (some .int), [])
def m_St_wrap : jl_M := (y_St_wrap, b_St_wrap, 3, (some .int), [])
def m_Dr_landingHand : jl_M := (y_Dr_landingHand, b_Dr_landingHand, 4, (some .int), [])
def m_Dr_firstMeeting : jl_M := (y_Dr_firstMeeting, b_Dr_firstMeeting, 4, (some .int), [])
def m_Dr_firstHeight : jl_M := (y_Dr_firstHeight, b_Dr_firstHeight, 2, (some .int), [])
def m_St_clash : jl_M := (y_St_clash, b_St_clash, 1, (some .int), [])
def m_St_highest : jl_M := (y_St_highest, b_St_highest, 1, (some .int), [])
def m_Sg_lastToLand : jl_M := (y_Sg_lastToLand, b_Sg_lastToLand, 3, (some .int), [])
def m_Lw_begin : jl_M := (y_Lw_begin, b_Lw_begin, 5, (some .int), [(0, 10, 13, 13)])
def m_St_begin : jl_M := (y_St_begin, b_St_begin, 4, (some .int), [])
def m_St_isOdd : jl_M := (y_St_isOdd, b_St_isOdd, 1, (some .boolean), [])
def m_Dr_clear : jl_M := (y_Dr_clear, b_Dr_clear, 3, none, [])
def m_Lw_put : jl_M := (y_Lw_put, b_Lw_put, 6, (some .int), [(0, 12, 15, 19), (0, 12, 19, 13)])
def m_St_put : jl_M := (y_St_put, b_St_put, 5, (some .int), [])
def m_St_requireSite : jl_M := (y_St_requireSite, b_St_requireSite, 2, none, [])
def m_Dr_hasSite : jl_M := (y_Dr_hasSite, b_Dr_hasSite, 2, (some .boolean), [])
def m_St_requireHeight : jl_M := (y_St_requireHeight, b_St_requireHeight, 1, none, [])
def m_Dr_setFirst : jl_M := (y_Dr_setFirst, b_Dr_setFirst, 4, none, [])
def m_Lw_add : jl_M := (y_Lw_add, b_Lw_add, 5, (some .int), [(0, 10, 13, 24), (0, 10, 17, 19), (0, 10, 21, 13)])
def m_St_add : jl_M := (y_St_add, b_St_add, 3, (some .int), [])
def m_Dr_throwsOf : jl_M := (y_Dr_throwsOf, b_Dr_throwsOf, 2, (some .int), [])
def m_Dr_append : jl_M := (y_Dr_append, b_Dr_append, 3, (some .int), [])
def m_Lw_balls : jl_M := (y_Lw_balls, b_Lw_balls, 3, (some .int), [(0, 8, 11, 24)])
def m_St_balls : jl_M := (y_St_balls, b_St_balls, 1, (some .int), [])
def m_St_requireValid : jl_M := (y_St_requireValid, b_St_requireValid, 1, none, [])
def m_Dr_ballCount : jl_M := (y_Dr_ballCount, b_Dr_ballCount, 4, (some .int), [])
def m_Lw_state : jl_M := (y_Lw_state, b_Lw_state, 4, (some .int), [(0, 9, 12, 24), (0, 9, 15, 19)])
def m_St_state : jl_M := (y_St_state, b_St_state, 2, (some .int), [])
def m_St_requirePlain : jl_M := (y_St_requirePlain, b_St_requirePlain, 1, none, [])
def m_Dr_stateBefore : jl_M := (y_Dr_stateBefore, b_Dr_stateBefore, 5, (some .int), [])
def m_Lw_swap : jl_M := (y_Lw_swap, b_Lw_swap, 5, (some .int), [(0, 17, 20, 24), (0, 17, 24, 19)])
def m_St_swap : jl_M := (y_St_swap, b_St_swap, 3, (some .boolean), [])
def m_Dr_swapLandings : jl_M := (y_Dr_swapLandings, b_Dr_swapLandings, 5, (some .boolean), [])
def m_Lw_canonical : jl_M := (y_Lw_canonical, b_Lw_canonical, 3, (some .int), [(0, 8, 11, 24)])
def m_St_canonical : jl_M := (y_St_canonical, b_St_canonical, 2, (some .int), [])
def m_Dr_leastRotation : jl_M := (y_Dr_leastRotation, b_Dr_leastRotation, 3, (some .int), [])
def m_Dr_isRotationLess : jl_M := (y_Dr_isRotationLess, b_Dr_isRotationLess, 5, (some .boolean), [])
def m_Dr_rotateTo : jl_M := (y_Dr_rotateTo, b_Dr_rotateTo, 3, none, [])
def m_Lw_height : jl_M := (y_Lw_height, b_Lw_height, 5, (some .int), [(0, 10, 13, 19)])
def m_St_height : jl_M := (y_St_height, b_St_height, 3, (some .int), [])
def m_Dr_crossingOf : jl_M := (y_Dr_crossingOf, b_Dr_crossingOf, 2, (some .int), [])
def m_Lw_save : jl_M := (y_Lw_save, b_Lw_save, 4, (some .int), [(0, 16, 19, 19)])
def m_St_save : jl_M := (y_St_save, b_St_save, 4, (some .boolean), [])
def m_St_requireSlot : jl_M := (y_St_requireSlot, b_St_requireSlot, 1, none, [])
def m_Dr_copyFrom : jl_M := (y_Dr_copyFrom, b_Dr_copyFrom, 2, none, [])
def m_Lw_load : jl_M := (y_Lw_load, b_Lw_load, 4, (some .int), [(0, 9, 12, 19), (0, 9, 15, 51)])
def m_St_load : jl_M := (y_St_load, b_St_load, 3, (some .int), [])
def m_Lw_join : jl_M := (y_Lw_join, b_Lw_join, 5, (some .int), [(0, 10, 13, 19), (0, 10, 17, 51), (0, 10, 21, 13)])
def m_St_join : jl_M := (y_St_join, b_St_join, 5, (some .int), [])
def m_Dr_isPlainAndValid : jl_M := (y_Dr_isPlainAndValid, b_Dr_isPlainAndValid, 1, (some .boolean), [])
def m_Jo_connect : jl_M := (y_Jo_connect, b_Jo_connect, 3, none, [])
def m_Jo_measureDistances : jl_M := (y_Jo_measureDistances, b_Jo_measureDistances, 5, none, [])
def m_Jo_reach : jl_M := (y_Jo_reach, b_Jo_reach, 3, none, [])
def m_St_stateFrom : jl_M := (y_St_stateFrom, b_St_stateFrom, 5, (some .int), [])
def m_Jo_nearestSite : jl_M := (y_Jo_nearestSite, b_Jo_nearestSite, 4, (some .int), [])
def m_Jo_distanceOf : jl_M := (y_Jo_distanceOf, b_Jo_distanceOf, 3, (some .int), [])
def m_Jo_walk : jl_M := (y_Jo_walk, b_Jo_walk, 5, (some .int), [])
def m_Jo_leastThrow : jl_M := (y_Jo_leastThrow, b_Jo_leastThrow, 5, (some .int), [])
def m_St_stateAfter : jl_M := (y_St_stateAfter, b_St_stateAfter, 5, (some .int), [])
def m_Dr_siteOfState : jl_M := (y_Dr_siteOfState, b_Dr_siteOfState, 3, (some .int), [])
def m_Lw_joinThrow : jl_M := (y_Lw_joinThrow, b_Lw_joinThrow, 4, (some .int), [(0, 9, 12, 19)])
def m_St_joinThrow : jl_M := (y_St_joinThrow, b_St_joinThrow, 2, (some .int), [])
def m_Jo_throwAt : jl_M := (y_Jo_throwAt, b_Jo_throwAt, 2, (some .int), [])
def m_Lw_joinAt : jl_M := (y_Lw_joinAt, b_Lw_joinAt, 4, (some .int), [(0, 9, 12, 19)])
def m_St_joinAt : jl_M := (y_St_joinAt, b_St_joinAt, 2, (some .int), [])
def m_Lw_countValid : jl_M := (y_Lw_countValid, b_Lw_countValid, 5, (some .int), [(0, 10, 13, 13)])
def m_St_countValid : jl_M := (y_St_countValid, b_St_countValid, 3, (some .int), [])
def m_Cn_countDrafts : jl_M := (y_Cn_countDrafts, b_Cn_countDrafts, 5, (some .int), [])
def m_Cn_throwNext : jl_M := (y_Cn_throwNext, b_Cn_throwNext, 6, none, [])
def m_In_bitCount : jl_M := (y_In_bitCount, b_In_bitCount, 1, (some .int), [])
def m_Cn_addRows : jl_M := (y_Cn_addRows, b_Cn_addRows, 5, none, [])
def m_Lw_cycle : jl_M := (y_Lw_cycle, b_Lw_cycle, 5, (some .int), [(0, 10, 13, 13), (0, 10, 17, 51)])
def m_St_cycle : jl_M := (y_St_cycle, b_St_cycle, 4, (some .int), [])
def m_Cy_find : jl_M := (y_Cy_find, b_Cy_find, 3, (some .int), [])
def m_Cy_search : jl_M := (y_Cy_search, b_Cy_search, 8, (some .int), [])
def m_Dr_isCycle : jl_M := (y_Dr_isCycle, b_Dr_isCycle, 2, (some .boolean), [])
def m_Lw_show : jl_M := (y_Lw_show, b_Lw_show, 3, (some .int), [(0, 8, 11, 24)])
def m_St_show : jl_M := (y_St_show, b_St_show, 1, (some .int), [])
def m_Sg_open : jl_M := (y_Sg_open, b_Sg_open, 2, none, [])
def m_Sg_numberBalls : jl_M := (y_Sg_numberBalls, b_Sg_numberBalls, 3, none, [])
def m_Sg_numberBallsLanding : jl_M := (y_Sg_numberBallsLanding, b_Sg_numberBallsLanding, 6, none, [])
def m_Dr_siteThrowing : jl_M := (y_Dr_siteThrowing, b_Dr_siteThrowing, 3, (some .int), [])
def m_Sg_numberBallsOf : jl_M := (y_Sg_numberBallsOf, b_Sg_numberBallsOf, 6, none, [])
def m_Lw_run : jl_M := (y_Lw_run, b_Lw_run, 4, (some .int), [(0, 9, 12, 13), (0, 9, 15, 24)])
def m_St_run : jl_M := (y_St_run, b_St_run, 2, (some .int), [])
def m_St_requireShown : jl_M := (y_St_requireShown, b_St_requireShown, 1, none, [])
def m_Sg_goOn : jl_M := (y_Sg_goOn, b_Sg_goOn, 5, (some .int), [])
def m_Sg_throwFrom : jl_M := (y_Sg_throwFrom, b_Sg_throwFrom, 6, (some .int), [])
def m_Sg_nextThrow : jl_M := (y_Sg_nextThrow, b_Sg_nextThrow, 4, (some .int), [])
def m_Lw_ball : jl_M := (y_Lw_ball, b_Lw_ball, 4, (some .int), [(0, 9, 12, 19)])
def m_St_ball : jl_M := (y_St_ball, b_St_ball, 2, (some .int), [])
def m_St_requireBall : jl_M := (y_St_requireBall, b_St_requireBall, 2, none, [])
def m_Sg_beatsUntilLanding : jl_M := (y_Sg_beatsUntilLanding, b_Sg_beatsUntilLanding, 2, (some .int), [])
def m_Lw_hand : jl_M := (y_Lw_hand, b_Lw_hand, 4, (some .int), [(0, 9, 12, 19)])
def m_St_hand : jl_M := (y_St_hand, b_St_hand, 2, (some .int), [])
def m_Sg_landingHand : jl_M := (y_Sg_landingHand, b_Sg_landingHand, 2, (some .int), [])
def m_Lw_floor : jl_M := (y_Lw_floor, b_Lw_floor, 4, (some .int), [(0, 9, 12, 19), (0, 9, 15, 24)])
def m_St_floor : jl_M := (y_St_floor, b_St_floor, 2, (some .int), [])
def m_Sg_throwsMade : jl_M := (y_Sg_throwsMade, b_Sg_throwsMade, 2, (some .int), [])
def m_Md_init : jl_M := (y_Md_init, b_Md_init, 1, none, [])
def m_Md_fresh : jl_M := (y_Md_fresh, b_Md_fresh, 5, none, [])
def m_Md_thrown : jl_M := (y_Md_thrown, b_Md_thrown, 1, (some .int), [])
def m_Md_begin : jl_M := (y_Md_begin, b_Md_begin, 4, (some .int), [])
def m_Md_within : jl_M := (y_Md_within, b_Md_within, 3, (some .boolean), [])
def m_Md_fail : jl_M := (y_Md_fail, b_Md_fail, 2, (some .int), [])
def m_Md_put : jl_M := (y_Md_put, b_Md_put, 5, (some .int), [])
def m_Md_noSite : jl_M := (y_Md_noSite, b_Md_noSite, 2, (some .boolean), [])
def m_Md_tall : jl_M := (y_Md_tall, b_Md_tall, 4, (some .int), [])
def m_Md_add : jl_M := (y_Md_add, b_Md_add, 3, (some .int), [])
def m_Md_valid : jl_M := (y_Md_valid, b_Md_valid, 1, (some .boolean), [])
def m_Md_isValid : jl_M := (y_Md_isValid, b_Md_isValid, 4, (some .boolean), [])
def m_Md_landing : jl_M := (y_Md_landing, b_Md_landing, 6, (some .int), [])
def m_Md_target : jl_M := (y_Md_target, b_Md_target, 6, (some .int), [])
def m_Md_throwsAt : jl_M := (y_Md_throwsAt, b_Md_throwsAt, 5, (some .int), [])
def m_Md_clash : jl_M := (y_Md_clash, b_Md_clash, 4, (some .int), [])
def m_Md_balls : jl_M := (y_Md_balls, b_Md_balls, 1, (some .int), [])
def m_Md_ballsOf : jl_M := (y_Md_ballsOf, b_Md_ballsOf, 5, (some .int), [])
def m_Md_state : jl_M := (y_Md_state, b_Md_state, 2, (some .int), [])
def m_Md_stateOf : jl_M := (y_Md_stateOf, b_Md_stateOf, 6, (some .int), [])
def m_Md_swap : jl_M := (y_Md_swap, b_Md_swap, 5, (some .boolean), [])
def m_Md_canonical : jl_M := (y_Md_canonical, b_Md_canonical, 4, (some .int), [])
def m_Md_lower : jl_M := (y_Md_lower, b_Md_lower, 7, (some .boolean), [])
def m_Md_height : jl_M := (y_Md_height, b_Md_height, 3, (some .int), [])
def m_Md_save : jl_M := (y_Md_save, b_Md_save, 3, (some .boolean), [])
def m_Md_copy : jl_M := (y_Md_copy, b_Md_copy, 5, none, [])
def m_Md_load : jl_M := (y_Md_load, b_Md_load, 2, (some .int), [])
def m_Md_join : jl_M := (y_Md_join, b_Md_join, 7, (some .int), [])
def m_Md_measure : jl_M := (y_Md_measure, b_Md_measure, 6, none, [])
def m_Md_behind : jl_M := (y_Md_behind, b_Md_behind, 3, (some .int), [])
def m_Md_joinThrow : jl_M := (y_Md_joinThrow, b_Md_joinThrow, 2, (some .int), [])
def m_Md_joinAt : jl_M := (y_Md_joinAt, b_Md_joinAt, 2, (some .int), [])
def m_Md_countValid : jl_M := (y_Md_countValid, b_Md_countValid, 7, (some .int), [])
def m_Md_cycle : jl_M := (y_Md_cycle, b_Md_cycle, 8, (some .int), [])
def m_Md_rowIsCycle : jl_M := (y_Md_rowIsCycle, b_Md_rowIsCycle, 8, (some .boolean), [])
def m_Md_rowState : jl_M := (y_Md_rowState, b_Md_rowState, 6, (some .int), [])
def m_Md_show : jl_M := (y_Md_show, b_Md_show, 3, (some .int), [])
def m_Md_enter : jl_M := (y_Md_enter, b_Md_enter, 8, none, [])
def m_Md_comes : jl_M := (y_Md_comes, b_Md_comes, 3, none, [])
def m_Md_run : jl_M := (y_Md_run, b_Md_run, 4, (some .int), [])
def m_Md_beat : jl_M := (y_Md_beat, b_Md_beat, 5, (some .int), [])
def m_Md_fly : jl_M := (y_Md_fly, b_Md_fly, 5, none, [])
def m_Md_handOf : jl_M := (y_Md_handOf, b_Md_handOf, 3, (some .int), [])
def m_Md_ball : jl_M := (y_Md_ball, b_Md_ball, 2, (some .int), [])
def m_Md_hand : jl_M := (y_Md_hand, b_Md_hand, 2, (some .int), [])
def m_Md_highest : jl_M := (y_Md_highest, b_Md_highest, 3, (some .int), [])
def m_Md_floor : jl_M := (y_Md_floor, b_Md_floor, 2, (some .int), [])
def m_Lw_law : jl_M := (y_Lw_law, b_Lw_law, 7, (some .boolean), [])
theorem ij_Cn : ∀ w ∈ u_ws r_Cn f_Cn 1, w ∈ jl_T := fun w h => jl_in (iw_Cn w h).1 (iw_Cn w h).2
theorem ij_Cy : ∀ w ∈ u_ws r_Cy f_Cy 2, w ∈ jl_T := fun w h => jl_in (iw_Cy w h).1 (iw_Cy w h).2
theorem ij_Dr : ∀ w ∈ u_ws r_Dr f_Dr 6, w ∈ jl_T := fun w h => jl_in (iw_Dr w h).1 (iw_Dr w h).2
theorem ij_Jo : ∀ w ∈ u_ws r_Jo f_Jo 8, w ∈ jl_T := fun w h => jl_in (iw_Jo w h).1 (iw_Jo w h).2
theorem ij_Sg : ∀ w ∈ u_ws r_Sg f_Sg 7, w ∈ jl_T := fun w h => jl_in (iw_Sg w h).1 (iw_Sg w h).2
theorem ij_St : ∀ w ∈ u_ws r_St f_St 6, w ∈ jl_T := fun w h => jl_in (iw_St w h).1 (iw_St w h).2
theorem ij_Md : ∀ w ∈ u_ws r_Md f_Md 21, w ∈ jl_T := fun w h => jl_in (iw_Md w h).1 (iw_Md w h).2
theorem jg_0 {l : Launch} {G : jl_G} {F : List Frame → Array Value → State → Nat → Nat → (Nat → Nat) → Nat → State → Prop} {M : jl_M} {d pc : Nat} {L : List (Option Value)} {st : List Value} {n : Nat} {h : Nat → va_E} {ck sk : Nat} {x q ix : Nat} {fs : List Value} {v : Value} (hd : decode M.2.1 pc = .ok (.getfield ix, 3)) (he : h x = jO 0 fs) (hv : fs[q]? = some v) (hq : q < 1) (hw : Cond.fieldLink M.1.cls ix (f_Cn q).1 (f_Cn q).2.1 (f_Cn q).2.2.1 ∈ jl_T) (k : jl_AW l G F M d (pc + 3) L (v :: st) n h ck sk) : jl_AW l G F M d pc L (.ref x :: st) n h ck sk := jl_get hd he hv rfl ij_Cn hq hw k
theorem jgn_0 {l : Launch} {G : jl_G} {F : List Frame → Array Value → State → Nat → Nat → (Nat → Nat) → Nat → State → Prop} {M : jl_M} {d pc : Nat} {L : List (Option Value)} {st : List Value} {n : Nat} {h : Nat → va_E} {ck sk : Nat} {host : String} {x q ix : Nat} {fs : List Value} {v : Value} (hd : decode M.2.1 pc = .ok (.getfield ix, 3)) (he : h x = jO 0 fs) (hv : fs[q]? = some v) (hq : q < 1) (hw : Cond.fieldLinkNest M.1.cls ix (f_Cn q).1 (f_Cn q).2.1 (f_Cn q).2.2.1 host ∈ jl_N) (k : jl_AW l G F M d (pc + 3) L (v :: st) n h ck sk) : jl_AW l G F M d pc L (.ref x :: st) n h ck sk := jl_getN hd he hv rfl ij_Cn hq hw k
theorem jp_0 {l : Launch} {G : jl_G} {F : List Frame → Array Value → State → Nat → Nat → (Nat → Nat) → Nat → State → Prop} {M : jl_M} {d pc : Nat} {L : List (Option Value)} {st : List Value} {n : Nat} {h : Nat → va_E} {ck sk : Nat} {x q ix : Nat} {fs : List Value} {v : Value} {ty : FieldType} (hd : decode M.2.1 pc = .ok (.putfield ix, 3)) (he : h x = jO 0 fs) (hl9 : q < fs.length) (hq : q < 1) (hw : Cond.fieldLink M.1.cls ix (f_Cn q).1 (f_Cn q).2.1 (f_Cn q).2.2.1 ∈ jl_T) (hfin : (f_Cn q).2.2.2 = false) (hdt : parseFieldDescriptor (f_Cn q).2.2.1 = some ty) (hna : ∀ sb al, narrow ty (jl_v sb al v) = jl_v sb al v) (hfi : ∀ sb al, fits ty (jl_v sb al v) = true) (k : ∀ h2, h2 = va_up h x (jO 0 (fs.set q v)) → jl_AW l G F M d (pc + 3) L st n h2 ck sk) : jl_AW l G F M d pc L (v :: .ref x :: st) n h ck sk := jl_put hd he hl9 rfl ij_Cn tk_Cn n_Cn hq hw hfin hdt hna hfi (k _ rfl)
theorem jpn_0 {l : Launch} {G : jl_G} {F : List Frame → Array Value → State → Nat → Nat → (Nat → Nat) → Nat → State → Prop} {M : jl_M} {d pc : Nat} {L : List (Option Value)} {st : List Value} {n : Nat} {h : Nat → va_E} {ck sk : Nat} {host : String} {x q ix : Nat} {fs : List Value} {v : Value} {ty : FieldType} (hd : decode M.2.1 pc = .ok (.putfield ix, 3)) (he : h x = jO 0 fs) (hl9 : q < fs.length) (hq : q < 1) (hw : Cond.fieldLinkNest M.1.cls ix (f_Cn q).1 (f_Cn q).2.1 (f_Cn q).2.2.1 host ∈ jl_N) (hfin : (f_Cn q).2.2.2 = false) (hdt : parseFieldDescriptor (f_Cn q).2.2.1 = some ty) (hna : ∀ sb al, narrow ty (jl_v sb al v) = jl_v sb al v) (hfi : ∀ sb al, fits ty (jl_v sb al v) = true) (k : ∀ h2, h2 = va_up h x (jO 0 (fs.set q v)) → jl_AW l G F M d (pc + 3) L st n h2 ck sk) : jl_AW l G F M d pc L (v :: .ref x :: st) n h ck sk := jl_putN hd he hl9 rfl ij_Cn tk_Cn n_Cn hq hw hfin hdt hna hfi (k _ rfl)
theorem jpf_0 {l : Launch} {G : jl_G} {F : List Frame → Array Value → State → Nat → Nat → (Nat → Nat) → Nat → State → Prop} {M : jl_M} {d pc : Nat} {L : List (Option Value)} {st : List Value} {n : Nat} {h : Nat → va_E} {ck sk : Nat} {x q ix : Nat} {fs : List Value} {v : Value} {ty : FieldType} (hd : decode M.2.1 pc = .ok (.putfield ix, 3)) (he : h x = jO 0 fs) (hl9 : q < fs.length) (hq : q < 1) (hw : Cond.fieldLink M.1.cls ix (f_Cn q).1 (f_Cn q).2.1 (f_Cn q).2.2.1 ∈ jl_T) (hfin : (f_Cn q).2.2.2 = true) (hi : M.1.name = "<init>") (hdc : (f_Cn q).1 = M.1.cls) (hdt : parseFieldDescriptor (f_Cn q).2.2.1 = some ty) (hna : ∀ sb al, narrow ty (jl_v sb al v) = jl_v sb al v) (hfi : ∀ sb al, fits ty (jl_v sb al v) = true) (k : ∀ h2, h2 = va_up h x (jO 0 (fs.set q v)) → jl_AW l G F M d (pc + 3) L st n h2 ck sk) : jl_AW l G F M d pc L (v :: .ref x :: st) n h ck sk := jl_putF hd he hl9 rfl ij_Cn tk_Cn n_Cn hq hw hfin hi hdc hdt hna hfi (k _ rfl)
theorem jg_1 {l : Launch} {G : jl_G} {F : List Frame → Array Value → State → Nat → Nat → (Nat → Nat) → Nat → State → Prop} {M : jl_M} {d pc : Nat} {L : List (Option Value)} {st : List Value} {n : Nat} {h : Nat → va_E} {ck sk : Nat} {x q ix : Nat} {fs : List Value} {v : Value} (hd : decode M.2.1 pc = .ok (.getfield ix, 3)) (he : h x = jO 1 fs) (hv : fs[q]? = some v) (hq : q < 2) (hw : Cond.fieldLink M.1.cls ix (f_Cy q).1 (f_Cy q).2.1 (f_Cy q).2.2.1 ∈ jl_T) (k : jl_AW l G F M d (pc + 3) L (v :: st) n h ck sk) : jl_AW l G F M d pc L (.ref x :: st) n h ck sk := jl_get hd he hv rfl ij_Cy hq hw k
theorem jgn_1 {l : Launch} {G : jl_G} {F : List Frame → Array Value → State → Nat → Nat → (Nat → Nat) → Nat → State → Prop} {M : jl_M} {d pc : Nat} {L : List (Option Value)} {st : List Value} {n : Nat} {h : Nat → va_E} {ck sk : Nat} {host : String} {x q ix : Nat} {fs : List Value} {v : Value} (hd : decode M.2.1 pc = .ok (.getfield ix, 3)) (he : h x = jO 1 fs) (hv : fs[q]? = some v) (hq : q < 2) (hw : Cond.fieldLinkNest M.1.cls ix (f_Cy q).1 (f_Cy q).2.1 (f_Cy q).2.2.1 host ∈ jl_N) (k : jl_AW l G F M d (pc + 3) L (v :: st) n h ck sk) : jl_AW l G F M d pc L (.ref x :: st) n h ck sk := jl_getN hd he hv rfl ij_Cy hq hw k
theorem jp_1 {l : Launch} {G : jl_G} {F : List Frame → Array Value → State → Nat → Nat → (Nat → Nat) → Nat → State → Prop} {M : jl_M} {d pc : Nat} {L : List (Option Value)} {st : List Value} {n : Nat} {h : Nat → va_E} {ck sk : Nat} {x q ix : Nat} {fs : List Value} {v : Value} {ty : FieldType} (hd : decode M.2.1 pc = .ok (.putfield ix, 3)) (he : h x = jO 1 fs) (hl9 : q < fs.length) (hq : q < 2) (hw : Cond.fieldLink M.1.cls ix (f_Cy q).1 (f_Cy q).2.1 (f_Cy q).2.2.1 ∈ jl_T) (hfin : (f_Cy q).2.2.2 = false) (hdt : parseFieldDescriptor (f_Cy q).2.2.1 = some ty) (hna : ∀ sb al, narrow ty (jl_v sb al v) = jl_v sb al v) (hfi : ∀ sb al, fits ty (jl_v sb al v) = true) (k : ∀ h2, h2 = va_up h x (jO 1 (fs.set q v)) → jl_AW l G F M d (pc + 3) L st n h2 ck sk) : jl_AW l G F M d pc L (v :: .ref x :: st) n h ck sk := jl_put hd he hl9 rfl ij_Cy tk_Cy n_Cy hq hw hfin hdt hna hfi (k _ rfl)
theorem jpn_1 {l : Launch} {G : jl_G} {F : List Frame → Array Value → State → Nat → Nat → (Nat → Nat) → Nat → State → Prop} {M : jl_M} {d pc : Nat} {L : List (Option Value)} {st : List Value} {n : Nat} {h : Nat → va_E} {ck sk : Nat} {host : String} {x q ix : Nat} {fs : List Value} {v : Value} {ty : FieldType} (hd : decode M.2.1 pc = .ok (.putfield ix, 3)) (he : h x = jO 1 fs) (hl9 : q < fs.length) (hq : q < 2) (hw : Cond.fieldLinkNest M.1.cls ix (f_Cy q).1 (f_Cy q).2.1 (f_Cy q).2.2.1 host ∈ jl_N) (hfin : (f_Cy q).2.2.2 = false) (hdt : parseFieldDescriptor (f_Cy q).2.2.1 = some ty) (hna : ∀ sb al, narrow ty (jl_v sb al v) = jl_v sb al v) (hfi : ∀ sb al, fits ty (jl_v sb al v) = true) (k : ∀ h2, h2 = va_up h x (jO 1 (fs.set q v)) → jl_AW l G F M d (pc + 3) L st n h2 ck sk) : jl_AW l G F M d pc L (v :: .ref x :: st) n h ck sk := jl_putN hd he hl9 rfl ij_Cy tk_Cy n_Cy hq hw hfin hdt hna hfi (k _ rfl)
theorem jpf_1 {l : Launch} {G : jl_G} {F : List Frame → Array Value → State → Nat → Nat → (Nat → Nat) → Nat → State → Prop} {M : jl_M} {d pc : Nat} {L : List (Option Value)} {st : List Value} {n : Nat} {h : Nat → va_E} {ck sk : Nat} {x q ix : Nat} {fs : List Value} {v : Value} {ty : FieldType} (hd : decode M.2.1 pc = .ok (.putfield ix, 3)) (he : h x = jO 1 fs) (hl9 : q < fs.length) (hq : q < 2) (hw : Cond.fieldLink M.1.cls ix (f_Cy q).1 (f_Cy q).2.1 (f_Cy q).2.2.1 ∈ jl_T) (hfin : (f_Cy q).2.2.2 = true) (hi : M.1.name = "<init>") (hdc : (f_Cy q).1 = M.1.cls) (hdt : parseFieldDescriptor (f_Cy q).2.2.1 = some ty) (hna : ∀ sb al, narrow ty (jl_v sb al v) = jl_v sb al v) (hfi : ∀ sb al, fits ty (jl_v sb al v) = true) (k : ∀ h2, h2 = va_up h x (jO 1 (fs.set q v)) → jl_AW l G F M d (pc + 3) L st n h2 ck sk) : jl_AW l G F M d pc L (v :: .ref x :: st) n h ck sk := jl_putF hd he hl9 rfl ij_Cy tk_Cy n_Cy hq hw hfin hi hdc hdt hna hfi (k _ rfl)
theorem jg_2 {l : Launch} {G : jl_G} {F : List Frame → Array Value → State → Nat → Nat → (Nat → Nat) → Nat → State → Prop} {M : jl_M} {d pc : Nat} {L : List (Option Value)} {st : List Value} {n : Nat} {h : Nat → va_E} {ck sk : Nat} {x q ix : Nat} {fs : List Value} {v : Value} (hd : decode M.2.1 pc = .ok (.getfield ix, 3)) (he : h x = jO 2 fs) (hv : fs[q]? = some v) (hq : q < 6) (hw : Cond.fieldLink M.1.cls ix (f_Dr q).1 (f_Dr q).2.1 (f_Dr q).2.2.1 ∈ jl_T) (k : jl_AW l G F M d (pc + 3) L (v :: st) n h ck sk) : jl_AW l G F M d pc L (.ref x :: st) n h ck sk := jl_get hd he hv rfl ij_Dr hq hw k
theorem jgn_2 {l : Launch} {G : jl_G} {F : List Frame → Array Value → State → Nat → Nat → (Nat → Nat) → Nat → State → Prop} {M : jl_M} {d pc : Nat} {L : List (Option Value)} {st : List Value} {n : Nat} {h : Nat → va_E} {ck sk : Nat} {host : String} {x q ix : Nat} {fs : List Value} {v : Value} (hd : decode M.2.1 pc = .ok (.getfield ix, 3)) (he : h x = jO 2 fs) (hv : fs[q]? = some v) (hq : q < 6) (hw : Cond.fieldLinkNest M.1.cls ix (f_Dr q).1 (f_Dr q).2.1 (f_Dr q).2.2.1 host ∈ jl_N) (k : jl_AW l G F M d (pc + 3) L (v :: st) n h ck sk) : jl_AW l G F M d pc L (.ref x :: st) n h ck sk := jl_getN hd he hv rfl ij_Dr hq hw k
theorem jp_2 {l : Launch} {G : jl_G} {F : List Frame → Array Value → State → Nat → Nat → (Nat → Nat) → Nat → State → Prop} {M : jl_M} {d pc : Nat} {L : List (Option Value)} {st : List Value} {n : Nat} {h : Nat → va_E} {ck sk : Nat} {x q ix : Nat} {fs : List Value} {v : Value} {ty : FieldType} (hd : decode M.2.1 pc = .ok (.putfield ix, 3)) (he : h x = jO 2 fs) (hl9 : q < fs.length) (hq : q < 6) (hw : Cond.fieldLink M.1.cls ix (f_Dr q).1 (f_Dr q).2.1 (f_Dr q).2.2.1 ∈ jl_T) (hfin : (f_Dr q).2.2.2 = false) (hdt : parseFieldDescriptor (f_Dr q).2.2.1 = some ty) (hna : ∀ sb al, narrow ty (jl_v sb al v) = jl_v sb al v) (hfi : ∀ sb al, fits ty (jl_v sb al v) = true) (k : ∀ h2, h2 = va_up h x (jO 2 (fs.set q v)) → jl_AW l G F M d (pc + 3) L st n h2 ck sk) : jl_AW l G F M d pc L (v :: .ref x :: st) n h ck sk := jl_put hd he hl9 rfl ij_Dr tk_Dr n_Dr hq hw hfin hdt hna hfi (k _ rfl)
theorem jpn_2 {l : Launch} {G : jl_G} {F : List Frame → Array Value → State → Nat → Nat → (Nat → Nat) → Nat → State → Prop} {M : jl_M} {d pc : Nat} {L : List (Option Value)} {st : List Value} {n : Nat} {h : Nat → va_E} {ck sk : Nat} {host : String} {x q ix : Nat} {fs : List Value} {v : Value} {ty : FieldType} (hd : decode M.2.1 pc = .ok (.putfield ix, 3)) (he : h x = jO 2 fs) (hl9 : q < fs.length) (hq : q < 6) (hw : Cond.fieldLinkNest M.1.cls ix (f_Dr q).1 (f_Dr q).2.1 (f_Dr q).2.2.1 host ∈ jl_N) (hfin : (f_Dr q).2.2.2 = false) (hdt : parseFieldDescriptor (f_Dr q).2.2.1 = some ty) (hna : ∀ sb al, narrow ty (jl_v sb al v) = jl_v sb al v) (hfi : ∀ sb al, fits ty (jl_v sb al v) = true) (k : ∀ h2, h2 = va_up h x (jO 2 (fs.set q v)) → jl_AW l G F M d (pc + 3) L st n h2 ck sk) : jl_AW l G F M d pc L (v :: .ref x :: st) n h ck sk := jl_putN hd he hl9 rfl ij_Dr tk_Dr n_Dr hq hw hfin hdt hna hfi (k _ rfl)
theorem jpf_2 {l : Launch} {G : jl_G} {F : List Frame → Array Value → State → Nat → Nat → (Nat → Nat) → Nat → State → Prop} {M : jl_M} {d pc : Nat} {L : List (Option Value)} {st : List Value} {n : Nat} {h : Nat → va_E} {ck sk : Nat} {x q ix : Nat} {fs : List Value} {v : Value} {ty : FieldType} (hd : decode M.2.1 pc = .ok (.putfield ix, 3)) (he : h x = jO 2 fs) (hl9 : q < fs.length) (hq : q < 6) (hw : Cond.fieldLink M.1.cls ix (f_Dr q).1 (f_Dr q).2.1 (f_Dr q).2.2.1 ∈ jl_T) (hfin : (f_Dr q).2.2.2 = true) (hi : M.1.name = "<init>") (hdc : (f_Dr q).1 = M.1.cls) (hdt : parseFieldDescriptor (f_Dr q).2.2.1 = some ty) (hna : ∀ sb al, narrow ty (jl_v sb al v) = jl_v sb al v) (hfi : ∀ sb al, fits ty (jl_v sb al v) = true) (k : ∀ h2, h2 = va_up h x (jO 2 (fs.set q v)) → jl_AW l G F M d (pc + 3) L st n h2 ck sk) : jl_AW l G F M d pc L (v :: .ref x :: st) n h ck sk := jl_putF hd he hl9 rfl ij_Dr tk_Dr n_Dr hq hw hfin hi hdc hdt hna hfi (k _ rfl)
theorem jg_3 {l : Launch} {G : jl_G} {F : List Frame → Array Value → State → Nat → Nat → (Nat → Nat) → Nat → State → Prop} {M : jl_M} {d pc : Nat} {L : List (Option Value)} {st : List Value} {n : Nat} {h : Nat → va_E} {ck sk : Nat} {x q ix : Nat} {fs : List Value} {v : Value} (hd : decode M.2.1 pc = .ok (.getfield ix, 3)) (he : h x = jO 3 fs) (hv : fs[q]? = some v) (hq : q < 8) (hw : Cond.fieldLink M.1.cls ix (f_Jo q).1 (f_Jo q).2.1 (f_Jo q).2.2.1 ∈ jl_T) (k : jl_AW l G F M d (pc + 3) L (v :: st) n h ck sk) : jl_AW l G F M d pc L (.ref x :: st) n h ck sk := jl_get hd he hv rfl ij_Jo hq hw k
theorem jgn_3 {l : Launch} {G : jl_G} {F : List Frame → Array Value → State → Nat → Nat → (Nat → Nat) → Nat → State → Prop} {M : jl_M} {d pc : Nat} {L : List (Option Value)} {st : List Value} {n : Nat} {h : Nat → va_E} {ck sk : Nat} {host : String} {x q ix : Nat} {fs : List Value} {v : Value} (hd : decode M.2.1 pc = .ok (.getfield ix, 3)) (he : h x = jO 3 fs) (hv : fs[q]? = some v) (hq : q < 8) (hw : Cond.fieldLinkNest M.1.cls ix (f_Jo q).1 (f_Jo q).2.1 (f_Jo q).2.2.1 host ∈ jl_N) (k : jl_AW l G F M d (pc + 3) L (v :: st) n h ck sk) : jl_AW l G F M d pc L (.ref x :: st) n h ck sk := jl_getN hd he hv rfl ij_Jo hq hw k
theorem jp_3 {l : Launch} {G : jl_G} {F : List Frame → Array Value → State → Nat → Nat → (Nat → Nat) → Nat → State → Prop} {M : jl_M} {d pc : Nat} {L : List (Option Value)} {st : List Value} {n : Nat} {h : Nat → va_E} {ck sk : Nat} {x q ix : Nat} {fs : List Value} {v : Value} {ty : FieldType} (hd : decode M.2.1 pc = .ok (.putfield ix, 3)) (he : h x = jO 3 fs) (hl9 : q < fs.length) (hq : q < 8) (hw : Cond.fieldLink M.1.cls ix (f_Jo q).1 (f_Jo q).2.1 (f_Jo q).2.2.1 ∈ jl_T) (hfin : (f_Jo q).2.2.2 = false) (hdt : parseFieldDescriptor (f_Jo q).2.2.1 = some ty) (hna : ∀ sb al, narrow ty (jl_v sb al v) = jl_v sb al v) (hfi : ∀ sb al, fits ty (jl_v sb al v) = true) (k : ∀ h2, h2 = va_up h x (jO 3 (fs.set q v)) → jl_AW l G F M d (pc + 3) L st n h2 ck sk) : jl_AW l G F M d pc L (v :: .ref x :: st) n h ck sk := jl_put hd he hl9 rfl ij_Jo tk_Jo n_Jo hq hw hfin hdt hna hfi (k _ rfl)
theorem jpn_3 {l : Launch} {G : jl_G} {F : List Frame → Array Value → State → Nat → Nat → (Nat → Nat) → Nat → State → Prop} {M : jl_M} {d pc : Nat} {L : List (Option Value)} {st : List Value} {n : Nat} {h : Nat → va_E} {ck sk : Nat} {host : String} {x q ix : Nat} {fs : List Value} {v : Value} {ty : FieldType} (hd : decode M.2.1 pc = .ok (.putfield ix, 3)) (he : h x = jO 3 fs) (hl9 : q < fs.length) (hq : q < 8) (hw : Cond.fieldLinkNest M.1.cls ix (f_Jo q).1 (f_Jo q).2.1 (f_Jo q).2.2.1 host ∈ jl_N) (hfin : (f_Jo q).2.2.2 = false) (hdt : parseFieldDescriptor (f_Jo q).2.2.1 = some ty) (hna : ∀ sb al, narrow ty (jl_v sb al v) = jl_v sb al v) (hfi : ∀ sb al, fits ty (jl_v sb al v) = true) (k : ∀ h2, h2 = va_up h x (jO 3 (fs.set q v)) → jl_AW l G F M d (pc + 3) L st n h2 ck sk) : jl_AW l G F M d pc L (v :: .ref x :: st) n h ck sk := jl_putN hd he hl9 rfl ij_Jo tk_Jo n_Jo hq hw hfin hdt hna hfi (k _ rfl)
theorem jpf_3 {l : Launch} {G : jl_G} {F : List Frame → Array Value → State → Nat → Nat → (Nat → Nat) → Nat → State → Prop} {M : jl_M} {d pc : Nat} {L : List (Option Value)} {st : List Value} {n : Nat} {h : Nat → va_E} {ck sk : Nat} {x q ix : Nat} {fs : List Value} {v : Value} {ty : FieldType} (hd : decode M.2.1 pc = .ok (.putfield ix, 3)) (he : h x = jO 3 fs) (hl9 : q < fs.length) (hq : q < 8) (hw : Cond.fieldLink M.1.cls ix (f_Jo q).1 (f_Jo q).2.1 (f_Jo q).2.2.1 ∈ jl_T) (hfin : (f_Jo q).2.2.2 = true) (hi : M.1.name = "<init>") (hdc : (f_Jo q).1 = M.1.cls) (hdt : parseFieldDescriptor (f_Jo q).2.2.1 = some ty) (hna : ∀ sb al, narrow ty (jl_v sb al v) = jl_v sb al v) (hfi : ∀ sb al, fits ty (jl_v sb al v) = true) (k : ∀ h2, h2 = va_up h x (jO 3 (fs.set q v)) → jl_AW l G F M d (pc + 3) L st n h2 ck sk) : jl_AW l G F M d pc L (v :: .ref x :: st) n h ck sk := jl_putF hd he hl9 rfl ij_Jo tk_Jo n_Jo hq hw hfin hi hdc hdt hna hfi (k _ rfl)
theorem jg_4 {l : Launch} {G : jl_G} {F : List Frame → Array Value → State → Nat → Nat → (Nat → Nat) → Nat → State → Prop} {M : jl_M} {d pc : Nat} {L : List (Option Value)} {st : List Value} {n : Nat} {h : Nat → va_E} {ck sk : Nat} {x q ix : Nat} {fs : List Value} {v : Value} (hd : decode M.2.1 pc = .ok (.getfield ix, 3)) (he : h x = jO 4 fs) (hv : fs[q]? = some v) (hq : q < 7) (hw : Cond.fieldLink M.1.cls ix (f_Sg q).1 (f_Sg q).2.1 (f_Sg q).2.2.1 ∈ jl_T) (k : jl_AW l G F M d (pc + 3) L (v :: st) n h ck sk) : jl_AW l G F M d pc L (.ref x :: st) n h ck sk := jl_get hd he hv rfl ij_Sg hq hw k
theorem jgn_4 {l : Launch} {G : jl_G} {F : List Frame → Array Value → State → Nat → Nat → (Nat → Nat) → Nat → State → Prop} {M : jl_M} {d pc : Nat} {L : List (Option Value)} {st : List Value} {n : Nat} {h : Nat → va_E} {ck sk : Nat} {host : String} {x q ix : Nat} {fs : List Value} {v : Value} (hd : decode M.2.1 pc = .ok (.getfield ix, 3)) (he : h x = jO 4 fs) (hv : fs[q]? = some v) (hq : q < 7) (hw : Cond.fieldLinkNest M.1.cls ix (f_Sg q).1 (f_Sg q).2.1 (f_Sg q).2.2.1 host ∈ jl_N) (k : jl_AW l G F M d (pc + 3) L (v :: st) n h ck sk) : jl_AW l G F M d pc L (.ref x :: st) n h ck sk := jl_getN hd he hv rfl ij_Sg hq hw k
theorem jp_4 {l : Launch} {G : jl_G} {F : List Frame → Array Value → State → Nat → Nat → (Nat → Nat) → Nat → State → Prop} {M : jl_M} {d pc : Nat} {L : List (Option Value)} {st : List Value} {n : Nat} {h : Nat → va_E} {ck sk : Nat} {x q ix : Nat} {fs : List Value} {v : Value} {ty : FieldType} (hd : decode M.2.1 pc = .ok (.putfield ix, 3)) (he : h x = jO 4 fs) (hl9 : q < fs.length) (hq : q < 7) (hw : Cond.fieldLink M.1.cls ix (f_Sg q).1 (f_Sg q).2.1 (f_Sg q).2.2.1 ∈ jl_T) (hfin : (f_Sg q).2.2.2 = false) (hdt : parseFieldDescriptor (f_Sg q).2.2.1 = some ty) (hna : ∀ sb al, narrow ty (jl_v sb al v) = jl_v sb al v) (hfi : ∀ sb al, fits ty (jl_v sb al v) = true) (k : ∀ h2, h2 = va_up h x (jO 4 (fs.set q v)) → jl_AW l G F M d (pc + 3) L st n h2 ck sk) : jl_AW l G F M d pc L (v :: .ref x :: st) n h ck sk := jl_put hd he hl9 rfl ij_Sg tk_Sg n_Sg hq hw hfin hdt hna hfi (k _ rfl)
theorem jpn_4 {l : Launch} {G : jl_G} {F : List Frame → Array Value → State → Nat → Nat → (Nat → Nat) → Nat → State → Prop} {M : jl_M} {d pc : Nat} {L : List (Option Value)} {st : List Value} {n : Nat} {h : Nat → va_E} {ck sk : Nat} {host : String} {x q ix : Nat} {fs : List Value} {v : Value} {ty : FieldType} (hd : decode M.2.1 pc = .ok (.putfield ix, 3)) (he : h x = jO 4 fs) (hl9 : q < fs.length) (hq : q < 7) (hw : Cond.fieldLinkNest M.1.cls ix (f_Sg q).1 (f_Sg q).2.1 (f_Sg q).2.2.1 host ∈ jl_N) (hfin : (f_Sg q).2.2.2 = false) (hdt : parseFieldDescriptor (f_Sg q).2.2.1 = some ty) (hna : ∀ sb al, narrow ty (jl_v sb al v) = jl_v sb al v) (hfi : ∀ sb al, fits ty (jl_v sb al v) = true) (k : ∀ h2, h2 = va_up h x (jO 4 (fs.set q v)) → jl_AW l G F M d (pc + 3) L st n h2 ck sk) : jl_AW l G F M d pc L (v :: .ref x :: st) n h ck sk := jl_putN hd he hl9 rfl ij_Sg tk_Sg n_Sg hq hw hfin hdt hna hfi (k _ rfl)
theorem jpf_4 {l : Launch} {G : jl_G} {F : List Frame → Array Value → State → Nat → Nat → (Nat → Nat) → Nat → State → Prop} {M : jl_M} {d pc : Nat} {L : List (Option Value)} {st : List Value} {n : Nat} {h : Nat → va_E} {ck sk : Nat} {x q ix : Nat} {fs : List Value} {v : Value} {ty : FieldType} (hd : decode M.2.1 pc = .ok (.putfield ix, 3)) (he : h x = jO 4 fs) (hl9 : q < fs.length) (hq : q < 7) (hw : Cond.fieldLink M.1.cls ix (f_Sg q).1 (f_Sg q).2.1 (f_Sg q).2.2.1 ∈ jl_T) (hfin : (f_Sg q).2.2.2 = true) (hi : M.1.name = "<init>") (hdc : (f_Sg q).1 = M.1.cls) (hdt : parseFieldDescriptor (f_Sg q).2.2.1 = some ty) (hna : ∀ sb al, narrow ty (jl_v sb al v) = jl_v sb al v) (hfi : ∀ sb al, fits ty (jl_v sb al v) = true) (k : ∀ h2, h2 = va_up h x (jO 4 (fs.set q v)) → jl_AW l G F M d (pc + 3) L st n h2 ck sk) : jl_AW l G F M d pc L (v :: .ref x :: st) n h ck sk := jl_putF hd he hl9 rfl ij_Sg tk_Sg n_Sg hq hw hfin hi hdc hdt hna hfi (k _ rfl)
theorem jg_5 {l : Launch} {G : jl_G} {F : List Frame → Array Value → State → Nat → Nat → (Nat → Nat) → Nat → State → Prop} {M : jl_M} {d pc : Nat} {L : List (Option Value)} {st : List Value} {n : Nat} {h : Nat → va_E} {ck sk : Nat} {x q ix : Nat} {fs : List Value} {v : Value} (hd : decode M.2.1 pc = .ok (.getfield ix, 3)) (he : h x = jO 5 fs) (hv : fs[q]? = some v) (hq : q < 6) (hw : Cond.fieldLink M.1.cls ix (f_St q).1 (f_St q).2.1 (f_St q).2.2.1 ∈ jl_T) (k : jl_AW l G F M d (pc + 3) L (v :: st) n h ck sk) : jl_AW l G F M d pc L (.ref x :: st) n h ck sk := jl_get hd he hv rfl ij_St hq hw k
theorem jgn_5 {l : Launch} {G : jl_G} {F : List Frame → Array Value → State → Nat → Nat → (Nat → Nat) → Nat → State → Prop} {M : jl_M} {d pc : Nat} {L : List (Option Value)} {st : List Value} {n : Nat} {h : Nat → va_E} {ck sk : Nat} {host : String} {x q ix : Nat} {fs : List Value} {v : Value} (hd : decode M.2.1 pc = .ok (.getfield ix, 3)) (he : h x = jO 5 fs) (hv : fs[q]? = some v) (hq : q < 6) (hw : Cond.fieldLinkNest M.1.cls ix (f_St q).1 (f_St q).2.1 (f_St q).2.2.1 host ∈ jl_N) (k : jl_AW l G F M d (pc + 3) L (v :: st) n h ck sk) : jl_AW l G F M d pc L (.ref x :: st) n h ck sk := jl_getN hd he hv rfl ij_St hq hw k
theorem jp_5 {l : Launch} {G : jl_G} {F : List Frame → Array Value → State → Nat → Nat → (Nat → Nat) → Nat → State → Prop} {M : jl_M} {d pc : Nat} {L : List (Option Value)} {st : List Value} {n : Nat} {h : Nat → va_E} {ck sk : Nat} {x q ix : Nat} {fs : List Value} {v : Value} {ty : FieldType} (hd : decode M.2.1 pc = .ok (.putfield ix, 3)) (he : h x = jO 5 fs) (hl9 : q < fs.length) (hq : q < 6) (hw : Cond.fieldLink M.1.cls ix (f_St q).1 (f_St q).2.1 (f_St q).2.2.1 ∈ jl_T) (hfin : (f_St q).2.2.2 = false) (hdt : parseFieldDescriptor (f_St q).2.2.1 = some ty) (hna : ∀ sb al, narrow ty (jl_v sb al v) = jl_v sb al v) (hfi : ∀ sb al, fits ty (jl_v sb al v) = true) (k : ∀ h2, h2 = va_up h x (jO 5 (fs.set q v)) → jl_AW l G F M d (pc + 3) L st n h2 ck sk) : jl_AW l G F M d pc L (v :: .ref x :: st) n h ck sk := jl_put hd he hl9 rfl ij_St tk_St n_St hq hw hfin hdt hna hfi (k _ rfl)
theorem jpn_5 {l : Launch} {G : jl_G} {F : List Frame → Array Value → State → Nat → Nat → (Nat → Nat) → Nat → State → Prop} {M : jl_M} {d pc : Nat} {L : List (Option Value)} {st : List Value} {n : Nat} {h : Nat → va_E} {ck sk : Nat} {host : String} {x q ix : Nat} {fs : List Value} {v : Value} {ty : FieldType} (hd : decode M.2.1 pc = .ok (.putfield ix, 3)) (he : h x = jO 5 fs) (hl9 : q < fs.length) (hq : q < 6) (hw : Cond.fieldLinkNest M.1.cls ix (f_St q).1 (f_St q).2.1 (f_St q).2.2.1 host ∈ jl_N) (hfin : (f_St q).2.2.2 = false) (hdt : parseFieldDescriptor (f_St q).2.2.1 = some ty) (hna : ∀ sb al, narrow ty (jl_v sb al v) = jl_v sb al v) (hfi : ∀ sb al, fits ty (jl_v sb al v) = true) (k : ∀ h2, h2 = va_up h x (jO 5 (fs.set q v)) → jl_AW l G F M d (pc + 3) L st n h2 ck sk) : jl_AW l G F M d pc L (v :: .ref x :: st) n h ck sk := jl_putN hd he hl9 rfl ij_St tk_St n_St hq hw hfin hdt hna hfi (k _ rfl)
theorem jpf_5 {l : Launch} {G : jl_G} {F : List Frame → Array Value → State → Nat → Nat → (Nat → Nat) → Nat → State → Prop} {M : jl_M} {d pc : Nat} {L : List (Option Value)} {st : List Value} {n : Nat} {h : Nat → va_E} {ck sk : Nat} {x q ix : Nat} {fs : List Value} {v : Value} {ty : FieldType} (hd : decode M.2.1 pc = .ok (.putfield ix, 3)) (he : h x = jO 5 fs) (hl9 : q < fs.length) (hq : q < 6) (hw : Cond.fieldLink M.1.cls ix (f_St q).1 (f_St q).2.1 (f_St q).2.2.1 ∈ jl_T) (hfin : (f_St q).2.2.2 = true) (hi : M.1.name = "<init>") (hdc : (f_St q).1 = M.1.cls) (hdt : parseFieldDescriptor (f_St q).2.2.1 = some ty) (hna : ∀ sb al, narrow ty (jl_v sb al v) = jl_v sb al v) (hfi : ∀ sb al, fits ty (jl_v sb al v) = true) (k : ∀ h2, h2 = va_up h x (jO 5 (fs.set q v)) → jl_AW l G F M d (pc + 3) L st n h2 ck sk) : jl_AW l G F M d pc L (v :: .ref x :: st) n h ck sk := jl_putF hd he hl9 rfl ij_St tk_St n_St hq hw hfin hi hdc hdt hna hfi (k _ rfl)
theorem jg_6 {l : Launch} {G : jl_G} {F : List Frame → Array Value → State → Nat → Nat → (Nat → Nat) → Nat → State → Prop} {M : jl_M} {d pc : Nat} {L : List (Option Value)} {st : List Value} {n : Nat} {h : Nat → va_E} {ck sk : Nat} {x q ix : Nat} {fs : List Value} {v : Value} (hd : decode M.2.1 pc = .ok (.getfield ix, 3)) (he : h x = jO 6 fs) (hv : fs[q]? = some v) (hq : q < 21) (hw : Cond.fieldLink M.1.cls ix (f_Md q).1 (f_Md q).2.1 (f_Md q).2.2.1 ∈ jl_T) (k : jl_AW l G F M d (pc + 3) L (v :: st) n h ck sk) : jl_AW l G F M d pc L (.ref x :: st) n h ck sk := jl_get hd he hv rfl ij_Md hq hw k
theorem jgn_6 {l : Launch} {G : jl_G} {F : List Frame → Array Value → State → Nat → Nat → (Nat → Nat) → Nat → State → Prop} {M : jl_M} {d pc : Nat} {L : List (Option Value)} {st : List Value} {n : Nat} {h : Nat → va_E} {ck sk : Nat} {host : String} {x q ix : Nat} {fs : List Value} {v : Value} (hd : decode M.2.1 pc = .ok (.getfield ix, 3)) (he : h x = jO 6 fs) (hv : fs[q]? = some v) (hq : q < 21) (hw : Cond.fieldLinkNest M.1.cls ix (f_Md q).1 (f_Md q).2.1 (f_Md q).2.2.1 host ∈ jl_N) (k : jl_AW l G F M d (pc + 3) L (v :: st) n h ck sk) : jl_AW l G F M d pc L (.ref x :: st) n h ck sk := jl_getN hd he hv rfl ij_Md hq hw k
theorem jp_6 {l : Launch} {G : jl_G} {F : List Frame → Array Value → State → Nat → Nat → (Nat → Nat) → Nat → State → Prop} {M : jl_M} {d pc : Nat} {L : List (Option Value)} {st : List Value} {n : Nat} {h : Nat → va_E} {ck sk : Nat} {x q ix : Nat} {fs : List Value} {v : Value} {ty : FieldType} (hd : decode M.2.1 pc = .ok (.putfield ix, 3)) (he : h x = jO 6 fs) (hl9 : q < fs.length) (hq : q < 21) (hw : Cond.fieldLink M.1.cls ix (f_Md q).1 (f_Md q).2.1 (f_Md q).2.2.1 ∈ jl_T) (hfin : (f_Md q).2.2.2 = false) (hdt : parseFieldDescriptor (f_Md q).2.2.1 = some ty) (hna : ∀ sb al, narrow ty (jl_v sb al v) = jl_v sb al v) (hfi : ∀ sb al, fits ty (jl_v sb al v) = true) (k : ∀ h2, h2 = va_up h x (jO 6 (fs.set q v)) → jl_AW l G F M d (pc + 3) L st n h2 ck sk) : jl_AW l G F M d pc L (v :: .ref x :: st) n h ck sk := jl_put hd he hl9 rfl ij_Md tk_Md n_Md hq hw hfin hdt hna hfi (k _ rfl)
theorem jpn_6 {l : Launch} {G : jl_G} {F : List Frame → Array Value → State → Nat → Nat → (Nat → Nat) → Nat → State → Prop} {M : jl_M} {d pc : Nat} {L : List (Option Value)} {st : List Value} {n : Nat} {h : Nat → va_E} {ck sk : Nat} {host : String} {x q ix : Nat} {fs : List Value} {v : Value} {ty : FieldType} (hd : decode M.2.1 pc = .ok (.putfield ix, 3)) (he : h x = jO 6 fs) (hl9 : q < fs.length) (hq : q < 21) (hw : Cond.fieldLinkNest M.1.cls ix (f_Md q).1 (f_Md q).2.1 (f_Md q).2.2.1 host ∈ jl_N) (hfin : (f_Md q).2.2.2 = false) (hdt : parseFieldDescriptor (f_Md q).2.2.1 = some ty) (hna : ∀ sb al, narrow ty (jl_v sb al v) = jl_v sb al v) (hfi : ∀ sb al, fits ty (jl_v sb al v) = true) (k : ∀ h2, h2 = va_up h x (jO 6 (fs.set q v)) → jl_AW l G F M d (pc + 3) L st n h2 ck sk) : jl_AW l G F M d pc L (v :: .ref x :: st) n h ck sk := jl_putN hd he hl9 rfl ij_Md tk_Md n_Md hq hw hfin hdt hna hfi (k _ rfl)
theorem jpf_6 {l : Launch} {G : jl_G} {F : List Frame → Array Value → State → Nat → Nat → (Nat → Nat) → Nat → State → Prop} {M : jl_M} {d pc : Nat} {L : List (Option Value)} {st : List Value} {n : Nat} {h : Nat → va_E} {ck sk : Nat} {x q ix : Nat} {fs : List Value} {v : Value} {ty : FieldType} (hd : decode M.2.1 pc = .ok (.putfield ix, 3)) (he : h x = jO 6 fs) (hl9 : q < fs.length) (hq : q < 21) (hw : Cond.fieldLink M.1.cls ix (f_Md q).1 (f_Md q).2.1 (f_Md q).2.2.1 ∈ jl_T) (hfin : (f_Md q).2.2.2 = true) (hi : M.1.name = "<init>") (hdc : (f_Md q).1 = M.1.cls) (hdt : parseFieldDescriptor (f_Md q).2.2.1 = some ty) (hna : ∀ sb al, narrow ty (jl_v sb al v) = jl_v sb al v) (hfi : ∀ sb al, fits ty (jl_v sb al v) = true) (k : ∀ h2, h2 = va_up h x (jO 6 (fs.set q v)) → jl_AW l G F M d (pc + 3) L st n h2 ck sk) : jl_AW l G F M d pc L (v :: .ref x :: st) n h ck sk := jl_putF hd he hl9 rfl ij_Md tk_Md n_Md hq hw hfin hi hdc hdt hna hfi (k _ rfl)
end
section
theorem fw_St_12 : Cond.fieldLink "SiteswapStudio" 12 "SiteswapStudio" "draft" "LSiteswapStudio$Draft;" ∈ jl_T := jl_in (List.mem_of_getElem? (i := 195) (by decide +kernel)) (by decide +kernel)
theorem fw_St_16 : Cond.fieldLink "SiteswapStudio" 16 "SiteswapStudio" "shelf" "[LSiteswapStudio$Draft;" ∈ jl_T := jl_in (List.mem_of_getElem? (i := 196) (by decide +kernel)) (by decide +kernel)
theorem fw_St_23 : Cond.fieldLink "SiteswapStudio" 23 "SiteswapStudio" "joint" "LSiteswapStudio$Joint;" ∈ jl_T := jl_in (List.mem_of_getElem? (i := 197) (by decide +kernel)) (by decide +kernel)
theorem fw_St_30 : Cond.fieldLink "SiteswapStudio" 30 "SiteswapStudio" "counter" "LSiteswapStudio$Counter;" ∈ jl_T := jl_in (List.mem_of_getElem? (i := 198) (by decide +kernel)) (by decide +kernel)
theorem fw_St_37 : Cond.fieldLink "SiteswapStudio" 37 "SiteswapStudio" "cycles" "LSiteswapStudio$CycleSearch;" ∈ jl_T := jl_in (List.mem_of_getElem? (i := 199) (by decide +kernel)) (by decide +kernel)
theorem fw_St_44 : Cond.fieldLink "SiteswapStudio" 44 "SiteswapStudio" "stage" "LSiteswapStudio$Stage;" ∈ jl_T := jl_in (List.mem_of_getElem? (i := 200) (by decide +kernel)) (by decide +kernel)
theorem fw_St_61 : Cond.fieldLinkNest "SiteswapStudio" 61 "SiteswapStudio$Draft" "period" "I" "SiteswapStudio" ∈ jl_N := jl_inN (List.mem_of_getElem? (i := 83) (by decide +kernel)) (by decide +kernel)
theorem fw_St_76 : Cond.fieldLinkNest "SiteswapStudio" 76 "SiteswapStudio$Draft" "mode" "I" "SiteswapStudio" ∈ jl_N := jl_inN (List.mem_of_getElem? (i := 81) (by decide +kernel)) (by decide +kernel)
theorem fw_St_165 : Cond.fieldLinkNest "SiteswapStudio" 165 "SiteswapStudio$Joint" "length" "I" "SiteswapStudio" ∈ jl_N := jl_inN (List.mem_of_getElem? (i := 112) (by decide +kernel)) (by decide +kernel)
theorem fw_St_173 : Cond.fieldLinkNest "SiteswapStudio" 173 "SiteswapStudio$Joint" "made" "Z" "SiteswapStudio" ∈ jl_N := jl_inN (List.mem_of_getElem? (i := 114) (by decide +kernel)) (by decide +kernel)
theorem fw_St_179 : Cond.fieldLinkNest "SiteswapStudio" 179 "SiteswapStudio$Joint" "fromSite" "I" "SiteswapStudio" ∈ jl_N := jl_inN (List.mem_of_getElem? (i := 116) (by decide +kernel)) (by decide +kernel)
theorem fw_St_182 : Cond.fieldLinkNest "SiteswapStudio" 182 "SiteswapStudio$Joint" "toSite" "I" "SiteswapStudio" ∈ jl_N := jl_inN (List.mem_of_getElem? (i := 118) (by decide +kernel)) (by decide +kernel)
theorem fw_St_200 : Cond.fieldLinkNest "SiteswapStudio" 200 "SiteswapStudio$Stage" "ballCount" "I" "SiteswapStudio" ∈ jl_N := jl_inN (List.mem_of_getElem? (i := 179) (by decide +kernel)) (by decide +kernel)
theorem fw_St_224 : Cond.fieldLinkNest "SiteswapStudio" 224 "SiteswapStudio$Stage" "now" "I" "SiteswapStudio" ∈ jl_N := jl_inN (List.mem_of_getElem? (i := 177) (by decide +kernel)) (by decide +kernel)
theorem fw_St_230 : Cond.fieldLinkNest "SiteswapStudio" 230 "SiteswapStudio$Stage" "shown" "LSiteswapStudio$Draft;" "SiteswapStudio" ∈ jl_N := jl_inN (List.mem_of_getElem? (i := 170) (by decide +kernel)) (by decide +kernel)
theorem fw_St_246 : Cond.fieldLinkNest "SiteswapStudio" 246 "SiteswapStudio$Stage" "isOpen" "Z" "SiteswapStudio" ∈ jl_N := jl_inN (List.mem_of_getElem? (i := 175) (by decide +kernel)) (by decide +kernel)
theorem fw_Cn_11 : Cond.fieldLink "SiteswapStudio$Counter" 11 "SiteswapStudio$Counter" "rows" "[I" ∈ jl_T := jl_in (List.mem_of_getElem? (i := 142) (by decide +kernel)) (by decide +kernel)
theorem fw_Cy_12 : Cond.fieldLink "SiteswapStudio$CycleSearch" 12 "SiteswapStudio$CycleSearch" "candidate" "LSiteswapStudio$Draft;" ∈ jl_T := jl_in (List.mem_of_getElem? (i := 154) (by decide +kernel)) (by decide +kernel)
theorem fw_Cy_22 : Cond.fieldLink "SiteswapStudio$CycleSearch" 22 "SiteswapStudio$CycleSearch" "toPass" "I" ∈ jl_T := jl_in (List.mem_of_getElem? (i := 155) (by decide +kernel)) (by decide +kernel)
theorem fw_Cy_42 : Cond.fieldLinkNest "SiteswapStudio$CycleSearch" 42 "SiteswapStudio$Draft" "period" "I" "SiteswapStudio" ∈ jl_N := jl_inN (List.mem_of_getElem? (i := 84) (by decide +kernel)) (by decide +kernel)
theorem fw_Dr_9 : Cond.fieldLink "SiteswapStudio$Draft" 9 "SiteswapStudio$Draft" "heights" "[I" ∈ jl_T := jl_in (List.mem_of_getElem? (i := 76) (by decide +kernel)) (by decide +kernel)
theorem fw_Dr_15 : Cond.fieldLink "SiteswapStudio$Draft" 15 "SiteswapStudio$Draft" "counts" "[I" ∈ jl_T := jl_in (List.mem_of_getElem? (i := 77) (by decide +kernel)) (by decide +kernel)
theorem fw_Dr_18 : Cond.fieldLink "SiteswapStudio$Draft" 18 "SiteswapStudio$Draft" "crossings" "[I" ∈ jl_T := jl_in (List.mem_of_getElem? (i := 78) (by decide +kernel)) (by decide +kernel)
theorem fw_Dr_21 : Cond.fieldLink "SiteswapStudio$Draft" 21 "SiteswapStudio$Draft" "scratch" "[I" ∈ jl_T := jl_in (List.mem_of_getElem? (i := 79) (by decide +kernel)) (by decide +kernel)
theorem fw_Dr_24 : Cond.fieldLink "SiteswapStudio$Draft" 24 "SiteswapStudio$Draft" "mode" "I" ∈ jl_T := jl_in (List.mem_of_getElem? (i := 80) (by decide +kernel)) (by decide +kernel)
theorem fw_Dr_28 : Cond.fieldLink "SiteswapStudio$Draft" 28 "SiteswapStudio$Draft" "period" "I" ∈ jl_T := jl_in (List.mem_of_getElem? (i := 82) (by decide +kernel)) (by decide +kernel)
theorem fw_Jo_9 : Cond.fieldLink "SiteswapStudio$Joint" 9 "SiteswapStudio$Joint" "distances" "[I" ∈ jl_T := jl_in (List.mem_of_getElem? (i := 107) (by decide +kernel)) (by decide +kernel)
theorem fw_Jo_15 : Cond.fieldLink "SiteswapStudio$Joint" 15 "SiteswapStudio$Joint" "queue" "[I" ∈ jl_T := jl_in (List.mem_of_getElem? (i := 108) (by decide +kernel)) (by decide +kernel)
theorem fw_Jo_18 : Cond.fieldLink "SiteswapStudio$Joint" 18 "SiteswapStudio$Joint" "way" "[I" ∈ jl_T := jl_in (List.mem_of_getElem? (i := 109) (by decide +kernel)) (by decide +kernel)
theorem fw_Jo_29 : Cond.fieldLink "SiteswapStudio$Joint" 29 "SiteswapStudio$Joint" "fromSite" "I" ∈ jl_T := jl_in (List.mem_of_getElem? (i := 115) (by decide +kernel)) (by decide +kernel)
theorem fw_Jo_45 : Cond.fieldLink "SiteswapStudio$Joint" 45 "SiteswapStudio$Joint" "toSite" "I" ∈ jl_T := jl_in (List.mem_of_getElem? (i := 117) (by decide +kernel)) (by decide +kernel)
theorem fw_Jo_48 : Cond.fieldLink "SiteswapStudio$Joint" 48 "SiteswapStudio$Joint" "made" "Z" ∈ jl_T := jl_in (List.mem_of_getElem? (i := 113) (by decide +kernel)) (by decide +kernel)
theorem fw_Jo_58 : Cond.fieldLink "SiteswapStudio$Joint" 58 "SiteswapStudio$Joint" "queued" "I" ∈ jl_T := jl_in (List.mem_of_getElem? (i := 110) (by decide +kernel)) (by decide +kernel)
theorem fw_Jo_61 : Cond.fieldLinkNest "SiteswapStudio$Joint" 61 "SiteswapStudio$Draft" "period" "I" "SiteswapStudio" ∈ jl_N := jl_inN (List.mem_of_getElem? (i := 85) (by decide +kernel)) (by decide +kernel)
theorem fw_Jo_76 : Cond.fieldLink "SiteswapStudio$Joint" 76 "SiteswapStudio$Joint" "length" "I" ∈ jl_T := jl_in (List.mem_of_getElem? (i := 111) (by decide +kernel)) (by decide +kernel)
theorem fw_Sg_12 : Cond.fieldLink "SiteswapStudio$Stage" 12 "SiteswapStudio$Stage" "shown" "LSiteswapStudio$Draft;" ∈ jl_T := jl_in (List.mem_of_getElem? (i := 169) (by decide +kernel)) (by decide +kernel)
theorem fw_Sg_18 : Cond.fieldLink "SiteswapStudio$Stage" 18 "SiteswapStudio$Stage" "landsAt" "[I" ∈ jl_T := jl_in (List.mem_of_getElem? (i := 171) (by decide +kernel)) (by decide +kernel)
theorem fw_Sg_22 : Cond.fieldLink "SiteswapStudio$Stage" 22 "SiteswapStudio$Stage" "landsIn" "[I" ∈ jl_T := jl_in (List.mem_of_getElem? (i := 172) (by decide +kernel)) (by decide +kernel)
theorem fw_Sg_25 : Cond.fieldLink "SiteswapStudio$Stage" 25 "SiteswapStudio$Stage" "made" "[I" ∈ jl_T := jl_in (List.mem_of_getElem? (i := 173) (by decide +kernel)) (by decide +kernel)
theorem fw_Sg_32 : Cond.fieldLink "SiteswapStudio$Stage" 32 "SiteswapStudio$Stage" "isOpen" "Z" ∈ jl_T := jl_in (List.mem_of_getElem? (i := 174) (by decide +kernel)) (by decide +kernel)
theorem fw_Sg_36 : Cond.fieldLink "SiteswapStudio$Stage" 36 "SiteswapStudio$Stage" "now" "I" ∈ jl_T := jl_in (List.mem_of_getElem? (i := 176) (by decide +kernel)) (by decide +kernel)
theorem fw_Sg_43 : Cond.fieldLink "SiteswapStudio$Stage" 43 "SiteswapStudio$Stage" "ballCount" "I" ∈ jl_T := jl_in (List.mem_of_getElem? (i := 178) (by decide +kernel)) (by decide +kernel)
theorem fw_Md_7 : Cond.fieldLink "SiteswapStudioModel" 7 "SiteswapStudioModel" "modes" "[I" ∈ jl_T := jl_in (List.mem_of_getElem? (i := 784) (by decide +kernel)) (by decide +kernel)
theorem fw_Md_13 : Cond.fieldLink "SiteswapStudioModel" 13 "SiteswapStudioModel" "periods" "[I" ∈ jl_T := jl_in (List.mem_of_getElem? (i := 785) (by decide +kernel)) (by decide +kernel)
theorem fw_Md_16 : Cond.fieldLink "SiteswapStudioModel" 16 "SiteswapStudioModel" "counts" "[I" ∈ jl_T := jl_in (List.mem_of_getElem? (i := 786) (by decide +kernel)) (by decide +kernel)
theorem fw_Md_19 : Cond.fieldLink "SiteswapStudioModel" 19 "SiteswapStudioModel" "heights" "[I" ∈ jl_T := jl_in (List.mem_of_getElem? (i := 787) (by decide +kernel)) (by decide +kernel)
theorem fw_Md_22 : Cond.fieldLink "SiteswapStudioModel" 22 "SiteswapStudioModel" "crosses" "[Z" ∈ jl_T := jl_in (List.mem_of_getElem? (i := 788) (by decide +kernel)) (by decide +kernel)
theorem fw_Md_26 : Cond.fieldLink "SiteswapStudioModel" 26 "SiteswapStudioModel" "joined" "I" ∈ jl_T := jl_in (List.mem_of_getElem? (i := 789) (by decide +kernel)) (by decide +kernel)
theorem fw_Md_30 : Cond.fieldLink "SiteswapStudioModel" 30 "SiteswapStudioModel" "way" "[I" ∈ jl_T := jl_in (List.mem_of_getElem? (i := 792) (by decide +kernel)) (by decide +kernel)
theorem fw_Md_33 : Cond.fieldLink "SiteswapStudioModel" 33 "SiteswapStudioModel" "far" "[I" ∈ jl_T := jl_in (List.mem_of_getElem? (i := 793) (by decide +kernel)) (by decide +kernel)
theorem fw_Md_36 : Cond.fieldLink "SiteswapStudioModel" 36 "SiteswapStudioModel" "lands" "[I" ∈ jl_T := jl_in (List.mem_of_getElem? (i := 798) (by decide +kernel)) (by decide +kernel)
theorem fw_Md_39 : Cond.fieldLink "SiteswapStudioModel" 39 "SiteswapStudioModel" "hands" "[I" ∈ jl_T := jl_in (List.mem_of_getElem? (i := 799) (by decide +kernel)) (by decide +kernel)
theorem fw_Md_42 : Cond.fieldLink "SiteswapStudioModel" 42 "SiteswapStudioModel" "ways" "[I" ∈ jl_T := jl_in (List.mem_of_getElem? (i := 800) (by decide +kernel)) (by decide +kernel)
theorem fw_Md_45 : Cond.fieldLink "SiteswapStudioModel" 45 "SiteswapStudioModel" "more" "[I" ∈ jl_T := jl_in (List.mem_of_getElem? (i := 801) (by decide +kernel)) (by decide +kernel)
theorem fw_Md_48 : Cond.fieldLink "SiteswapStudioModel" 48 "SiteswapStudioModel" "row" "[I" ∈ jl_T := jl_in (List.mem_of_getElem? (i := 802) (by decide +kernel)) (by decide +kernel)
theorem fw_Md_51 : Cond.fieldLink "SiteswapStudioModel" 51 "SiteswapStudioModel" "turned" "[I" ∈ jl_T := jl_in (List.mem_of_getElem? (i := 803) (by decide +kernel)) (by decide +kernel)
theorem fw_Md_58 : Cond.fieldLink "SiteswapStudioModel" 58 "SiteswapStudioModel" "thrown" "I" ∈ jl_T := jl_in (List.mem_of_getElem? (i := 783) (by decide +kernel)) (by decide +kernel)
theorem fw_Md_111 : Cond.fieldLink "SiteswapStudioModel" 111 "SiteswapStudioModel" "joinA" "I" ∈ jl_T := jl_in (List.mem_of_getElem? (i := 790) (by decide +kernel)) (by decide +kernel)
theorem fw_Md_114 : Cond.fieldLink "SiteswapStudioModel" 114 "SiteswapStudioModel" "joinB" "I" ∈ jl_T := jl_in (List.mem_of_getElem? (i := 791) (by decide +kernel)) (by decide +kernel)
theorem fw_Md_126 : Cond.fieldLink "SiteswapStudioModel" 126 "SiteswapStudioModel" "balls" "I" ∈ jl_T := jl_in (List.mem_of_getElem? (i := 795) (by decide +kernel)) (by decide +kernel)
theorem fw_Md_129 : Cond.fieldLink "SiteswapStudioModel" 129 "SiteswapStudioModel" "now" "I" ∈ jl_T := jl_in (List.mem_of_getElem? (i := 794) (by decide +kernel)) (by decide +kernel)
theorem fw_Md_132 : Cond.fieldLink "SiteswapStudioModel" 132 "SiteswapStudioModel" "leftThrows" "I" ∈ jl_T := jl_in (List.mem_of_getElem? (i := 796) (by decide +kernel)) (by decide +kernel)
theorem fw_Md_135 : Cond.fieldLink "SiteswapStudioModel" 135 "SiteswapStudioModel" "rightThrows" "I" ∈ jl_T := jl_in (List.mem_of_getElem? (i := 797) (by decide +kernel)) (by decide +kernel)
theorem mw_St_11 : Cond.methodLink "SiteswapStudio" 11 y_Dr_init ∈ jl_T := jl_in (List.mem_of_getElem? (i := 72) (by decide +kernel)) (by decide +kernel)
theorem mw_St_22 : Cond.methodLinkNest "SiteswapStudio" 22 y_Jo_init "SiteswapStudio" ∈ jl_N := jl_inN (List.mem_of_getElem? (i := 103) (by decide +kernel)) (by decide +kernel)
theorem mw_St_29 : Cond.methodLinkNest "SiteswapStudio" 29 y_Cn_init "SiteswapStudio" ∈ jl_N := jl_inN (List.mem_of_getElem? (i := 138) (by decide +kernel)) (by decide +kernel)
theorem mw_St_36 : Cond.methodLinkNest "SiteswapStudio" 36 y_Cy_init "SiteswapStudio" ∈ jl_N := jl_inN (List.mem_of_getElem? (i := 148) (by decide +kernel)) (by decide +kernel)
theorem mw_St_43 : Cond.methodLinkNest "SiteswapStudio" 43 y_Sg_init "SiteswapStudio" ∈ jl_N := jl_inN (List.mem_of_getElem? (i := 163) (by decide +kernel)) (by decide +kernel)
theorem mw_St_55 : Cond.methodLink "SiteswapStudio" 55 y_St_isOdd ∈ jl_T := jl_in (List.mem_of_getElem? (i := 346) (by decide +kernel)) (by decide +kernel)
theorem mw_St_65 : Cond.methodLink "SiteswapStudio" 65 y_Dr_clear ∈ jl_T := jl_in (List.mem_of_getElem? (i := 350) (by decide +kernel)) (by decide +kernel)
theorem mw_St_69 : Cond.methodLink "SiteswapStudio" 69 y_St_requireSite ∈ jl_T := jl_in (List.mem_of_getElem? (i := 362) (by decide +kernel)) (by decide +kernel)
theorem mw_St_73 : Cond.methodLink "SiteswapStudio" 73 y_St_requireHeight ∈ jl_T := jl_in (List.mem_of_getElem? (i := 386) (by decide +kernel)) (by decide +kernel)
theorem mw_St_81 : Cond.methodLink "SiteswapStudio" 81 y_Dr_firstHeight ∈ jl_T := jl_in (List.mem_of_getElem? (i := 391) (by decide +kernel)) (by decide +kernel)
theorem mw_St_85 : Cond.methodLink "SiteswapStudio" 85 y_Dr_setFirst ∈ jl_T := jl_in (List.mem_of_getElem? (i := 392) (by decide +kernel)) (by decide +kernel)
theorem mw_St_94 : Cond.methodLink "SiteswapStudio" 94 y_Dr_throwsOf ∈ jl_T := jl_in (List.mem_of_getElem? (i := 420) (by decide +kernel)) (by decide +kernel)
theorem mw_St_99 : Cond.methodLink "SiteswapStudio" 99 y_Dr_append ∈ jl_T := jl_in (List.mem_of_getElem? (i := 425) (by decide +kernel)) (by decide +kernel)
theorem mw_St_103 : Cond.methodLink "SiteswapStudio" 103 y_Dr_isValid ∈ jl_T := jl_in (List.mem_of_getElem? (i := 218) (by decide +kernel)) (by decide +kernel)
theorem mw_St_107 : Cond.methodLink "SiteswapStudio" 107 y_Dr_firstClash ∈ jl_T := jl_in (List.mem_of_getElem? (i := 260) (by decide +kernel)) (by decide +kernel)
theorem mw_St_111 : Cond.methodLink "SiteswapStudio" 111 y_St_requireValid ∈ jl_T := jl_in (List.mem_of_getElem? (i := 436) (by decide +kernel)) (by decide +kernel)
theorem mw_St_114 : Cond.methodLink "SiteswapStudio" 114 y_Dr_ballCount ∈ jl_T := jl_in (List.mem_of_getElem? (i := 441) (by decide +kernel)) (by decide +kernel)
theorem mw_St_117 : Cond.methodLink "SiteswapStudio" 117 y_St_requirePlain ∈ jl_T := jl_in (List.mem_of_getElem? (i := 452) (by decide +kernel)) (by decide +kernel)
theorem mw_St_120 : Cond.methodLink "SiteswapStudio" 120 y_Dr_stateBefore ∈ jl_T := jl_in (List.mem_of_getElem? (i := 457) (by decide +kernel)) (by decide +kernel)
theorem mw_St_123 : Cond.methodLink "SiteswapStudio" 123 y_Dr_swapLandings ∈ jl_T := jl_in (List.mem_of_getElem? (i := 468) (by decide +kernel)) (by decide +kernel)
theorem mw_St_127 : Cond.methodLink "SiteswapStudio" 127 y_Dr_leastRotation ∈ jl_T := jl_in (List.mem_of_getElem? (i := 480) (by decide +kernel)) (by decide +kernel)
theorem mw_St_130 : Cond.methodLink "SiteswapStudio" 130 y_Dr_rotateTo ∈ jl_T := jl_in (List.mem_of_getElem? (i := 488) (by decide +kernel)) (by decide +kernel)
theorem mw_St_138 : Cond.methodLink "SiteswapStudio" 138 y_Dr_heightOf ∈ jl_T := jl_in (List.mem_of_getElem? (i := 500) (by decide +kernel)) (by decide +kernel)
theorem mw_St_141 : Cond.methodLink "SiteswapStudio" 141 y_Dr_crossingOf ∈ jl_T := jl_in (List.mem_of_getElem? (i := 501) (by decide +kernel)) (by decide +kernel)
theorem mw_St_144 : Cond.methodLink "SiteswapStudio" 144 y_St_requireSlot ∈ jl_T := jl_in (List.mem_of_getElem? (i := 512) (by decide +kernel)) (by decide +kernel)
theorem mw_St_147 : Cond.methodLink "SiteswapStudio" 147 y_Dr_copyFrom ∈ jl_T := jl_in (List.mem_of_getElem? (i := 516) (by decide +kernel)) (by decide +kernel)
theorem mw_St_156 : Cond.methodLink "SiteswapStudio" 156 y_Dr_isPlainAndValid ∈ jl_T := jl_in (List.mem_of_getElem? (i := 554) (by decide +kernel)) (by decide +kernel)
theorem mw_St_161 : Cond.methodLink "SiteswapStudio" 161 y_Jo_connect ∈ jl_T := jl_in (List.mem_of_getElem? (i := 560) (by decide +kernel)) (by decide +kernel)
theorem mw_St_170 : Cond.methodLink "SiteswapStudio" 170 y_Jo_throwAt ∈ jl_T := jl_in (List.mem_of_getElem? (i := 609) (by decide +kernel)) (by decide +kernel)
theorem mw_St_187 : Cond.methodLink "SiteswapStudio" 187 y_Cn_countDrafts ∈ jl_T := jl_in (List.mem_of_getElem? (i := 629) (by decide +kernel)) (by decide +kernel)
theorem mw_St_192 : Cond.methodLink "SiteswapStudio" 192 y_Cy_find ∈ jl_T := jl_in (List.mem_of_getElem? (i := 657) (by decide +kernel)) (by decide +kernel)
theorem mw_St_197 : Cond.methodLink "SiteswapStudio" 197 y_Sg_open ∈ jl_T := jl_in (List.mem_of_getElem? (i := 684) (by decide +kernel)) (by decide +kernel)
theorem mw_St_204 : Cond.methodLink "SiteswapStudio" 204 y_St_requireShown ∈ jl_T := jl_in (List.mem_of_getElem? (i := 717) (by decide +kernel)) (by decide +kernel)
theorem mw_St_207 : Cond.methodLink "SiteswapStudio" 207 y_Sg_goOn ∈ jl_T := jl_in (List.mem_of_getElem? (i := 722) (by decide +kernel)) (by decide +kernel)
theorem mw_St_210 : Cond.methodLink "SiteswapStudio" 210 y_St_requireBall ∈ jl_T := jl_in (List.mem_of_getElem? (i := 741) (by decide +kernel)) (by decide +kernel)
theorem mw_St_213 : Cond.methodLink "SiteswapStudio" 213 y_Sg_beatsUntilLanding ∈ jl_T := jl_in (List.mem_of_getElem? (i := 746) (by decide +kernel)) (by decide +kernel)
theorem mw_St_216 : Cond.methodLink "SiteswapStudio" 216 y_Sg_landingHand ∈ jl_T := jl_in (List.mem_of_getElem? (i := 757) (by decide +kernel)) (by decide +kernel)
theorem mw_St_219 : Cond.methodLink "SiteswapStudio" 219 y_Sg_lastToLand ∈ jl_T := jl_in (List.mem_of_getElem? (i := 265) (by decide +kernel)) (by decide +kernel)
theorem mw_St_227 : Cond.methodLink "SiteswapStudio" 227 y_Sg_throwsMade ∈ jl_T := jl_in (List.mem_of_getElem? (i := 769) (by decide +kernel)) (by decide +kernel)
theorem mw_St_233 : Cond.methodLink "SiteswapStudio" 233 y_Dr_hasSite ∈ jl_T := jl_in (List.mem_of_getElem? (i := 366) (by decide +kernel)) (by decide +kernel)
theorem mw_Cn_15 : Cond.methodLink "SiteswapStudio$Counter" 15 y_Ar_fill ∈ jl_T := jl_in (List.mem_of_getElem? (i := 633) (by decide +kernel)) (by decide +kernel)
theorem mw_Cn_21 : Cond.methodLink "SiteswapStudio$Counter" 21 y_Cn_throwNext ∈ jl_T := jl_in (List.mem_of_getElem? (i := 634) (by decide +kernel)) (by decide +kernel)
theorem mw_Cn_25 : Cond.methodLink "SiteswapStudio$Counter" 25 y_In_bitCount ∈ jl_T := jl_in (List.mem_of_getElem? (i := 638) (by decide +kernel)) (by decide +kernel)
theorem mw_Cn_31 : Cond.methodLinkNest "SiteswapStudio$Counter" 31 y_St_wrap "SiteswapStudio" ∈ jl_N := jl_inN (List.mem_of_getElem? (i := 644) (by decide +kernel)) (by decide +kernel)
theorem mw_Cn_35 : Cond.methodLink "SiteswapStudio$Counter" 35 y_Cn_addRows ∈ jl_T := jl_in (List.mem_of_getElem? (i := 645) (by decide +kernel)) (by decide +kernel)
theorem mw_Cy_11 : Cond.methodLink "SiteswapStudio$CycleSearch" 11 y_Dr_init ∈ jl_T := jl_in (List.mem_of_getElem? (i := 153) (by decide +kernel)) (by decide +kernel)
theorem mw_Cy_18 : Cond.methodLink "SiteswapStudio$CycleSearch" 18 y_Dr_clear ∈ jl_T := jl_in (List.mem_of_getElem? (i := 661) (by decide +kernel)) (by decide +kernel)
theorem mw_Cy_26 : Cond.methodLink "SiteswapStudio$CycleSearch" 26 y_Cy_search ∈ jl_T := jl_in (List.mem_of_getElem? (i := 662) (by decide +kernel)) (by decide +kernel)
theorem mw_Cy_30 : Cond.methodLink "SiteswapStudio$CycleSearch" 30 y_Dr_hasSite ∈ jl_T := jl_in (List.mem_of_getElem? (i := 666) (by decide +kernel)) (by decide +kernel)
theorem mw_Cy_34 : Cond.methodLink "SiteswapStudio$CycleSearch" 34 y_Dr_isCycle ∈ jl_T := jl_in (List.mem_of_getElem? (i := 667) (by decide +kernel)) (by decide +kernel)
theorem mw_Cy_38 : Cond.methodLink "SiteswapStudio$CycleSearch" 38 y_Dr_firstHeight ∈ jl_T := jl_in (List.mem_of_getElem? (i := 673) (by decide +kernel)) (by decide +kernel)
theorem mw_Cy_45 : Cond.methodLinkNest "SiteswapStudio$CycleSearch" 45 y_St_wrap "SiteswapStudio" ∈ jl_N := jl_inN (List.mem_of_getElem? (i := 674) (by decide +kernel)) (by decide +kernel)
theorem mw_Cy_49 : Cond.methodLink "SiteswapStudio$CycleSearch" 49 y_Dr_setFirst ∈ jl_T := jl_in (List.mem_of_getElem? (i := 675) (by decide +kernel)) (by decide +kernel)
theorem mw_Dr_31 : Cond.methodLink "SiteswapStudio$Draft" 31 y_Ar_fill ∈ jl_T := jl_in (List.mem_of_getElem? (i := 226) (by decide +kernel)) (by decide +kernel)
theorem mw_Dr_43 : Cond.methodLinkNest "SiteswapStudio$Draft" 43 y_St_wrap "SiteswapStudio" ∈ jl_N := jl_inN (List.mem_of_getElem? (i := 241) (by decide +kernel)) (by decide +kernel)
theorem mw_Dr_47 : Cond.methodLinkNest "SiteswapStudio$Draft" 47 y_St_isOdd "SiteswapStudio" ∈ jl_N := jl_inN (List.mem_of_getElem? (i := 701) (by decide +kernel)) (by decide +kernel)
theorem mw_Dr_51 : Cond.methodLink "SiteswapStudio$Draft" 51 y_Dr_landingHand ∈ jl_T := jl_in (List.mem_of_getElem? (i := 244) (by decide +kernel)) (by decide +kernel)
theorem mw_Dr_55 : Cond.methodLink "SiteswapStudio$Draft" 55 y_Dr_firstClash ∈ jl_T := jl_in (List.mem_of_getElem? (i := 222) (by decide +kernel)) (by decide +kernel)
theorem mw_Dr_59 : Cond.methodLink "SiteswapStudio$Draft" 59 y_Dr_isValid ∈ jl_T := jl_in (List.mem_of_getElem? (i := 558) (by decide +kernel)) (by decide +kernel)
theorem mw_Dr_63 : Cond.methodLink "SiteswapStudio$Draft" 63 y_Dr_firstUneven ∈ jl_T := jl_in (List.mem_of_getElem? (i := 229) (by decide +kernel)) (by decide +kernel)
theorem mw_Dr_66 : Cond.methodLink "SiteswapStudio$Draft" 66 y_Dr_firstMeeting ∈ jl_T := jl_in (List.mem_of_getElem? (i := 248) (by decide +kernel)) (by decide +kernel)
theorem mw_Dr_69 : Cond.methodLink "SiteswapStudio$Draft" 69 y_Dr_heightOf ∈ jl_T := jl_in (List.mem_of_getElem? (i := 233) (by decide +kernel)) (by decide +kernel)
theorem mw_Dr_72 : Cond.methodLink "SiteswapStudio$Draft" 72 y_Dr_landingSite ∈ jl_T := jl_in (List.mem_of_getElem? (i := 237) (by decide +kernel)) (by decide +kernel)
theorem mw_Dr_75 : Cond.methodLink "SiteswapStudio$Draft" 75 y_Dr_firstHeight ∈ jl_T := jl_in (List.mem_of_getElem? (i := 252) (by decide +kernel)) (by decide +kernel)
theorem mw_Dr_79 : Cond.methodLink "SiteswapStudio$Draft" 79 y_Dr_stateBefore ∈ jl_T := jl_in (List.mem_of_getElem? (i := 600) (by decide +kernel)) (by decide +kernel)
theorem mw_Dr_82 : Cond.methodLink "SiteswapStudio$Draft" 82 y_Dr_leastRotation ∈ jl_T := jl_in (List.mem_of_getElem? (i := 671) (by decide +kernel)) (by decide +kernel)
theorem mw_Dr_85 : Cond.methodLink "SiteswapStudio$Draft" 85 y_Dr_siteOfState ∈ jl_T := jl_in (List.mem_of_getElem? (i := 672) (by decide +kernel)) (by decide +kernel)
theorem mw_Dr_88 : Cond.methodLink "SiteswapStudio$Draft" 88 y_Dr_setFirst ∈ jl_T := jl_in (List.mem_of_getElem? (i := 472) (by decide +kernel)) (by decide +kernel)
theorem mw_Dr_92 : Cond.methodLink "SiteswapStudio$Draft" 92 y_Dr_isRotationLess ∈ jl_T := jl_in (List.mem_of_getElem? (i := 484) (by decide +kernel)) (by decide +kernel)
theorem mw_Jo_21 : Cond.methodLink "SiteswapStudio$Joint" 21 y_Jo_measureDistances ∈ jl_T := jl_in (List.mem_of_getElem? (i := 564) (by decide +kernel)) (by decide +kernel)
theorem mw_Jo_25 : Cond.methodLink "SiteswapStudio$Joint" 25 y_Jo_nearestSite ∈ jl_T := jl_in (List.mem_of_getElem? (i := 577) (by decide +kernel)) (by decide +kernel)
theorem mw_Jo_33 : Cond.methodLink "SiteswapStudio$Joint" 33 y_Dr_stateBefore ∈ jl_T := jl_in (List.mem_of_getElem? (i := 569) (by decide +kernel)) (by decide +kernel)
theorem mw_Jo_39 : Cond.methodLink "SiteswapStudio$Joint" 39 y_Jo_walk ∈ jl_T := jl_in (List.mem_of_getElem? (i := 585) (by decide +kernel)) (by decide +kernel)
theorem mw_Jo_42 : Cond.methodLink "SiteswapStudio$Joint" 42 y_Dr_siteOfState ∈ jl_T := jl_in (List.mem_of_getElem? (i := 596) (by decide +kernel)) (by decide +kernel)
theorem mw_Jo_52 : Cond.methodLink "SiteswapStudio$Joint" 52 y_Ar_fill ∈ jl_T := jl_in (List.mem_of_getElem? (i := 568) (by decide +kernel)) (by decide +kernel)
theorem mw_Jo_64 : Cond.methodLink "SiteswapStudio$Joint" 64 y_Jo_reach ∈ jl_T := jl_in (List.mem_of_getElem? (i := 570) (by decide +kernel)) (by decide +kernel)
theorem mw_Jo_68 : Cond.methodLinkNest "SiteswapStudio$Joint" 68 y_St_stateFrom "SiteswapStudio" ∈ jl_N := jl_inN (List.mem_of_getElem? (i := 574) (by decide +kernel)) (by decide +kernel)
theorem mw_Jo_72 : Cond.methodLink "SiteswapStudio$Joint" 72 y_Jo_distanceOf ∈ jl_T := jl_in (List.mem_of_getElem? (i := 581) (by decide +kernel)) (by decide +kernel)
theorem mw_Jo_79 : Cond.methodLink "SiteswapStudio$Joint" 79 y_Jo_leastThrow ∈ jl_T := jl_in (List.mem_of_getElem? (i := 589) (by decide +kernel)) (by decide +kernel)
theorem mw_Jo_82 : Cond.methodLinkNest "SiteswapStudio$Joint" 82 y_St_stateAfter "SiteswapStudio" ∈ jl_N := jl_inN (List.mem_of_getElem? (i := 593) (by decide +kernel)) (by decide +kernel)
theorem mw_Sg_11 : Cond.methodLink "SiteswapStudio$Stage" 11 y_Dr_init ∈ jl_T := jl_in (List.mem_of_getElem? (i := 168) (by decide +kernel)) (by decide +kernel)
theorem mw_Sg_28 : Cond.methodLink "SiteswapStudio$Stage" 28 y_Dr_copyFrom ∈ jl_T := jl_in (List.mem_of_getElem? (i := 688) (by decide +kernel)) (by decide +kernel)
theorem mw_Sg_40 : Cond.methodLink "SiteswapStudio$Stage" 40 y_Sg_numberBalls ∈ jl_T := jl_in (List.mem_of_getElem? (i := 689) (by decide +kernel)) (by decide +kernel)
theorem mw_Sg_46 : Cond.methodLink "SiteswapStudio$Stage" 46 y_Sg_numberBallsLanding ∈ jl_T := jl_in (List.mem_of_getElem? (i := 693) (by decide +kernel)) (by decide +kernel)
theorem mw_Sg_50 : Cond.methodLink "SiteswapStudio$Stage" 50 y_Dr_siteThrowing ∈ jl_T := jl_in (List.mem_of_getElem? (i := 697) (by decide +kernel)) (by decide +kernel)
theorem mw_Sg_54 : Cond.methodLink "SiteswapStudio$Stage" 54 y_Dr_landingHand ∈ jl_T := jl_in (List.mem_of_getElem? (i := 702) (by decide +kernel)) (by decide +kernel)
theorem mw_Sg_58 : Cond.methodLink "SiteswapStudio$Stage" 58 y_Sg_numberBallsOf ∈ jl_T := jl_in (List.mem_of_getElem? (i := 703) (by decide +kernel)) (by decide +kernel)
theorem mw_Sg_62 : Cond.methodLink "SiteswapStudio$Stage" 62 y_Dr_throwsOf ∈ jl_T := jl_in (List.mem_of_getElem? (i := 707) (by decide +kernel)) (by decide +kernel)
theorem mw_Sg_66 : Cond.methodLink "SiteswapStudio$Stage" 66 y_Dr_heightOf ∈ jl_T := jl_in (List.mem_of_getElem? (i := 708) (by decide +kernel)) (by decide +kernel)
theorem mw_Sg_69 : Cond.methodLink "SiteswapStudio$Stage" 69 y_Sg_throwFrom ∈ jl_T := jl_in (List.mem_of_getElem? (i := 726) (by decide +kernel)) (by decide +kernel)
theorem mw_Sg_72 : Cond.methodLink "SiteswapStudio$Stage" 72 y_Sg_nextThrow ∈ jl_T := jl_in (List.mem_of_getElem? (i := 730) (by decide +kernel)) (by decide +kernel)
theorem mw_Lw_7 : Cond.methodLink "SiteswapStudioLaw" 7 y_St_begin ∈ jl_T := jl_in (List.mem_of_getElem? (i := 273) (by decide +kernel)) (by decide +kernel)
theorem mw_Lw_15 : Cond.methodLink "SiteswapStudioLaw" 15 y_St_put ∈ jl_T := jl_in (List.mem_of_getElem? (i := 358) (by decide +kernel)) (by decide +kernel)
theorem mw_Lw_21 : Cond.methodLink "SiteswapStudioLaw" 21 y_St_add ∈ jl_T := jl_in (List.mem_of_getElem? (i := 400) (by decide +kernel)) (by decide +kernel)
theorem mw_Lw_26 : Cond.methodLink "SiteswapStudioLaw" 26 y_St_balls ∈ jl_T := jl_in (List.mem_of_getElem? (i := 432) (by decide +kernel)) (by decide +kernel)
theorem mw_Lw_30 : Cond.methodLink "SiteswapStudioLaw" 30 y_St_state ∈ jl_T := jl_in (List.mem_of_getElem? (i := 448) (by decide +kernel)) (by decide +kernel)
theorem mw_Lw_34 : Cond.methodLink "SiteswapStudioLaw" 34 y_St_swap ∈ jl_T := jl_in (List.mem_of_getElem? (i := 464) (by decide +kernel)) (by decide +kernel)
theorem mw_Lw_38 : Cond.methodLink "SiteswapStudioLaw" 38 y_St_canonical ∈ jl_T := jl_in (List.mem_of_getElem? (i := 476) (by decide +kernel)) (by decide +kernel)
theorem mw_Lw_41 : Cond.methodLink "SiteswapStudioLaw" 41 y_St_height ∈ jl_T := jl_in (List.mem_of_getElem? (i := 495) (by decide +kernel)) (by decide +kernel)
theorem mw_Lw_44 : Cond.methodLink "SiteswapStudioLaw" 44 y_St_save ∈ jl_T := jl_in (List.mem_of_getElem? (i := 508) (by decide +kernel)) (by decide +kernel)
theorem mw_Lw_48 : Cond.methodLink "SiteswapStudioLaw" 48 y_St_load ∈ jl_T := jl_in (List.mem_of_getElem? (i := 527) (by decide +kernel)) (by decide +kernel)
theorem mw_Lw_53 : Cond.methodLink "SiteswapStudioLaw" 53 y_St_join ∈ jl_T := jl_in (List.mem_of_getElem? (i := 550) (by decide +kernel)) (by decide +kernel)
theorem mw_Lw_56 : Cond.methodLink "SiteswapStudioLaw" 56 y_St_joinThrow ∈ jl_T := jl_in (List.mem_of_getElem? (i := 604) (by decide +kernel)) (by decide +kernel)
theorem mw_Lw_59 : Cond.methodLink "SiteswapStudioLaw" 59 y_St_joinAt ∈ jl_T := jl_in (List.mem_of_getElem? (i := 616) (by decide +kernel)) (by decide +kernel)
theorem mw_Lw_62 : Cond.methodLink "SiteswapStudioLaw" 62 y_St_countValid ∈ jl_T := jl_in (List.mem_of_getElem? (i := 624) (by decide +kernel)) (by decide +kernel)
theorem mw_Lw_65 : Cond.methodLink "SiteswapStudioLaw" 65 y_St_cycle ∈ jl_T := jl_in (List.mem_of_getElem? (i := 652) (by decide +kernel)) (by decide +kernel)
theorem mw_Lw_68 : Cond.methodLink "SiteswapStudioLaw" 68 y_St_show ∈ jl_T := jl_in (List.mem_of_getElem? (i := 680) (by decide +kernel)) (by decide +kernel)
theorem mw_Lw_71 : Cond.methodLink "SiteswapStudioLaw" 71 y_St_run ∈ jl_T := jl_in (List.mem_of_getElem? (i := 712) (by decide +kernel)) (by decide +kernel)
theorem mw_Lw_74 : Cond.methodLink "SiteswapStudioLaw" 74 y_St_ball ∈ jl_T := jl_in (List.mem_of_getElem? (i := 737) (by decide +kernel)) (by decide +kernel)
theorem mw_Lw_77 : Cond.methodLink "SiteswapStudioLaw" 77 y_St_hand ∈ jl_T := jl_in (List.mem_of_getElem? (i := 753) (by decide +kernel)) (by decide +kernel)
theorem mw_Lw_80 : Cond.methodLink "SiteswapStudioLaw" 80 y_St_floor ∈ jl_T := jl_in (List.mem_of_getElem? (i := 764) (by decide +kernel)) (by decide +kernel)
theorem mw_Lw_83 : Cond.methodLink "SiteswapStudioLaw" 83 y_St_init ∈ jl_T := jl_in (List.mem_of_getElem? (i := 64) (by decide +kernel)) (by decide +kernel)
theorem mw_Lw_86 : Cond.methodLink "SiteswapStudioLaw" 86 y_Md_init ∈ jl_T := jl_in (List.mem_of_getElem? (i := 775) (by decide +kernel)) (by decide +kernel)
theorem mw_Lw_87 : Cond.methodLink "SiteswapStudioLaw" 87 y_Lw_begin ∈ jl_T := jl_in (List.mem_of_getElem? (i := 269) (by decide +kernel)) (by decide +kernel)
theorem mw_Lw_92 : Cond.methodLink "SiteswapStudioLaw" 92 y_Md_begin ∈ jl_T := jl_in (List.mem_of_getElem? (i := 852) (by decide +kernel)) (by decide +kernel)
theorem mw_Lw_93 : Cond.methodLink "SiteswapStudioLaw" 93 y_Md_thrown ∈ jl_T := jl_in (List.mem_of_getElem? (i := 848) (by decide +kernel)) (by decide +kernel)
theorem mw_Lw_96 : Cond.methodLink "SiteswapStudioLaw" 96 y_Lw_put ∈ jl_T := jl_in (List.mem_of_getElem? (i := 354) (by decide +kernel)) (by decide +kernel)
theorem mw_Lw_99 : Cond.methodLink "SiteswapStudioLaw" 99 y_Md_put ∈ jl_T := jl_in (List.mem_of_getElem? (i := 863) (by decide +kernel)) (by decide +kernel)
theorem mw_Lw_100 : Cond.methodLink "SiteswapStudioLaw" 100 y_Lw_add ∈ jl_T := jl_in (List.mem_of_getElem? (i := 396) (by decide +kernel)) (by decide +kernel)
theorem mw_Lw_102 : Cond.methodLink "SiteswapStudioLaw" 102 y_Md_add ∈ jl_T := jl_in (List.mem_of_getElem? (i := 875) (by decide +kernel)) (by decide +kernel)
theorem mw_Lw_103 : Cond.methodLink "SiteswapStudioLaw" 103 y_St_valid ∈ jl_T := jl_in (List.mem_of_getElem? (i := 214) (by decide +kernel)) (by decide +kernel)
theorem mw_Lw_107 : Cond.methodLink "SiteswapStudioLaw" 107 y_Md_valid ∈ jl_T := jl_in (List.mem_of_getElem? (i := 879) (by decide +kernel)) (by decide +kernel)
theorem mw_Lw_108 : Cond.methodLink "SiteswapStudioLaw" 108 y_St_clash ∈ jl_T := jl_in (List.mem_of_getElem? (i := 256) (by decide +kernel)) (by decide +kernel)
theorem mw_Lw_111 : Cond.methodLink "SiteswapStudioLaw" 111 y_Md_clash ∈ jl_T := jl_in (List.mem_of_getElem? (i := 899) (by decide +kernel)) (by decide +kernel)
theorem mw_Lw_112 : Cond.methodLink "SiteswapStudioLaw" 112 y_Lw_balls ∈ jl_T := jl_in (List.mem_of_getElem? (i := 429) (by decide +kernel)) (by decide +kernel)
theorem mw_Lw_115 : Cond.methodLink "SiteswapStudioLaw" 115 y_Md_balls ∈ jl_T := jl_in (List.mem_of_getElem? (i := 903) (by decide +kernel)) (by decide +kernel)
theorem mw_Lw_116 : Cond.methodLink "SiteswapStudioLaw" 116 y_Lw_state ∈ jl_T := jl_in (List.mem_of_getElem? (i := 445) (by decide +kernel)) (by decide +kernel)
theorem mw_Lw_119 : Cond.methodLink "SiteswapStudioLaw" 119 y_Md_state ∈ jl_T := jl_in (List.mem_of_getElem? (i := 911) (by decide +kernel)) (by decide +kernel)
theorem mw_Lw_120 : Cond.methodLink "SiteswapStudioLaw" 120 y_Lw_swap ∈ jl_T := jl_in (List.mem_of_getElem? (i := 461) (by decide +kernel)) (by decide +kernel)
theorem mw_Lw_122 : Cond.methodLink "SiteswapStudioLaw" 122 y_Md_swap ∈ jl_T := jl_in (List.mem_of_getElem? (i := 919) (by decide +kernel)) (by decide +kernel)
theorem mw_Lw_123 : Cond.methodLink "SiteswapStudioLaw" 123 y_Lw_canonical ∈ jl_T := jl_in (List.mem_of_getElem? (i := 473) (by decide +kernel)) (by decide +kernel)
theorem mw_Lw_125 : Cond.methodLink "SiteswapStudioLaw" 125 y_Md_canonical ∈ jl_T := jl_in (List.mem_of_getElem? (i := 923) (by decide +kernel)) (by decide +kernel)
theorem mw_Lw_126 : Cond.methodLink "SiteswapStudioLaw" 126 y_Lw_height ∈ jl_T := jl_in (List.mem_of_getElem? (i := 492) (by decide +kernel)) (by decide +kernel)
theorem mw_Lw_128 : Cond.methodLink "SiteswapStudioLaw" 128 y_Md_height ∈ jl_T := jl_in (List.mem_of_getElem? (i := 931) (by decide +kernel)) (by decide +kernel)
theorem mw_Lw_129 : Cond.methodLink "SiteswapStudioLaw" 129 y_Lw_save ∈ jl_T := jl_in (List.mem_of_getElem? (i := 505) (by decide +kernel)) (by decide +kernel)
theorem mw_Lw_131 : Cond.methodLink "SiteswapStudioLaw" 131 y_Md_save ∈ jl_T := jl_in (List.mem_of_getElem? (i := 935) (by decide +kernel)) (by decide +kernel)
theorem mw_Lw_132 : Cond.methodLink "SiteswapStudioLaw" 132 y_Lw_load ∈ jl_T := jl_in (List.mem_of_getElem? (i := 523) (by decide +kernel)) (by decide +kernel)
theorem mw_Lw_134 : Cond.methodLink "SiteswapStudioLaw" 134 y_Md_load ∈ jl_T := jl_in (List.mem_of_getElem? (i := 943) (by decide +kernel)) (by decide +kernel)
theorem mw_Lw_135 : Cond.methodLink "SiteswapStudioLaw" 135 y_Lw_join ∈ jl_T := jl_in (List.mem_of_getElem? (i := 547) (by decide +kernel)) (by decide +kernel)
theorem mw_Lw_137 : Cond.methodLink "SiteswapStudioLaw" 137 y_Md_join ∈ jl_T := jl_in (List.mem_of_getElem? (i := 947) (by decide +kernel)) (by decide +kernel)
theorem mw_Lw_138 : Cond.methodLink "SiteswapStudioLaw" 138 y_Lw_joinThrow ∈ jl_T := jl_in (List.mem_of_getElem? (i := 601) (by decide +kernel)) (by decide +kernel)
theorem mw_Lw_140 : Cond.methodLink "SiteswapStudioLaw" 140 y_Md_joinThrow ∈ jl_T := jl_in (List.mem_of_getElem? (i := 958) (by decide +kernel)) (by decide +kernel)
theorem mw_Lw_141 : Cond.methodLink "SiteswapStudioLaw" 141 y_Lw_joinAt ∈ jl_T := jl_in (List.mem_of_getElem? (i := 613) (by decide +kernel)) (by decide +kernel)
theorem mw_Lw_143 : Cond.methodLink "SiteswapStudioLaw" 143 y_Md_joinAt ∈ jl_T := jl_in (List.mem_of_getElem? (i := 962) (by decide +kernel)) (by decide +kernel)
theorem mw_Lw_144 : Cond.methodLink "SiteswapStudioLaw" 144 y_Lw_countValid ∈ jl_T := jl_in (List.mem_of_getElem? (i := 621) (by decide +kernel)) (by decide +kernel)
theorem mw_Lw_146 : Cond.methodLink "SiteswapStudioLaw" 146 y_Md_countValid ∈ jl_T := jl_in (List.mem_of_getElem? (i := 966) (by decide +kernel)) (by decide +kernel)
theorem mw_Lw_147 : Cond.methodLink "SiteswapStudioLaw" 147 y_Lw_cycle ∈ jl_T := jl_in (List.mem_of_getElem? (i := 649) (by decide +kernel)) (by decide +kernel)
theorem mw_Lw_149 : Cond.methodLink "SiteswapStudioLaw" 149 y_Md_cycle ∈ jl_T := jl_in (List.mem_of_getElem? (i := 970) (by decide +kernel)) (by decide +kernel)
theorem mw_Lw_150 : Cond.methodLink "SiteswapStudioLaw" 150 y_Lw_show ∈ jl_T := jl_in (List.mem_of_getElem? (i := 677) (by decide +kernel)) (by decide +kernel)
theorem mw_Lw_152 : Cond.methodLink "SiteswapStudioLaw" 152 y_Md_show ∈ jl_T := jl_in (List.mem_of_getElem? (i := 982) (by decide +kernel)) (by decide +kernel)
theorem mw_Lw_153 : Cond.methodLink "SiteswapStudioLaw" 153 y_Lw_run ∈ jl_T := jl_in (List.mem_of_getElem? (i := 709) (by decide +kernel)) (by decide +kernel)
theorem mw_Lw_155 : Cond.methodLink "SiteswapStudioLaw" 155 y_Md_run ∈ jl_T := jl_in (List.mem_of_getElem? (i := 994) (by decide +kernel)) (by decide +kernel)
theorem mw_Lw_156 : Cond.methodLink "SiteswapStudioLaw" 156 y_Lw_ball ∈ jl_T := jl_in (List.mem_of_getElem? (i := 734) (by decide +kernel)) (by decide +kernel)
theorem mw_Lw_158 : Cond.methodLink "SiteswapStudioLaw" 158 y_Md_ball ∈ jl_T := jl_in (List.mem_of_getElem? (i := 1010) (by decide +kernel)) (by decide +kernel)
theorem mw_Lw_159 : Cond.methodLink "SiteswapStudioLaw" 159 y_Lw_hand ∈ jl_T := jl_in (List.mem_of_getElem? (i := 750) (by decide +kernel)) (by decide +kernel)
theorem mw_Lw_161 : Cond.methodLink "SiteswapStudioLaw" 161 y_Md_hand ∈ jl_T := jl_in (List.mem_of_getElem? (i := 1014) (by decide +kernel)) (by decide +kernel)
theorem mw_Lw_162 : Cond.methodLink "SiteswapStudioLaw" 162 y_St_highest ∈ jl_T := jl_in (List.mem_of_getElem? (i := 261) (by decide +kernel)) (by decide +kernel)
theorem mw_Lw_165 : Cond.methodLink "SiteswapStudioLaw" 165 y_Md_highest ∈ jl_T := jl_in (List.mem_of_getElem? (i := 1018) (by decide +kernel)) (by decide +kernel)
theorem mw_Lw_166 : Cond.methodLink "SiteswapStudioLaw" 166 y_Lw_floor ∈ jl_T := jl_in (List.mem_of_getElem? (i := 761) (by decide +kernel)) (by decide +kernel)
theorem mw_Lw_168 : Cond.methodLink "SiteswapStudioLaw" 168 y_Md_floor ∈ jl_T := jl_in (List.mem_of_getElem? (i := 1022) (by decide +kernel)) (by decide +kernel)
theorem mw_Md_54 : Cond.methodLink "SiteswapStudioModel" 54 y_Md_fresh ∈ jl_T := jl_in (List.mem_of_getElem? (i := 779) (by decide +kernel)) (by decide +kernel)
theorem mw_Md_61 : Cond.methodLink "SiteswapStudioModel" 61 y_Md_within ∈ jl_T := jl_in (List.mem_of_getElem? (i := 856) (by decide +kernel)) (by decide +kernel)
theorem mw_Md_65 : Cond.methodLink "SiteswapStudioModel" 65 y_Md_fail ∈ jl_T := jl_in (List.mem_of_getElem? (i := 859) (by decide +kernel)) (by decide +kernel)
theorem mw_Md_69 : Cond.methodLink "SiteswapStudioModel" 69 y_Md_noSite ∈ jl_T := jl_in (List.mem_of_getElem? (i := 867) (by decide +kernel)) (by decide +kernel)
theorem mw_Md_73 : Cond.methodLink "SiteswapStudioModel" 73 y_Md_tall ∈ jl_T := jl_in (List.mem_of_getElem? (i := 871) (by decide +kernel)) (by decide +kernel)
theorem mw_Md_77 : Cond.methodLink "SiteswapStudioModel" 77 y_Md_target ∈ jl_T := jl_in (List.mem_of_getElem? (i := 891) (by decide +kernel)) (by decide +kernel)
theorem mw_Md_80 : Cond.methodLink "SiteswapStudioModel" 80 y_Md_landing ∈ jl_T := jl_in (List.mem_of_getElem? (i := 887) (by decide +kernel)) (by decide +kernel)
theorem mw_Md_84 : Cond.methodLink "SiteswapStudioModel" 84 y_Md_throwsAt ∈ jl_T := jl_in (List.mem_of_getElem? (i := 895) (by decide +kernel)) (by decide +kernel)
theorem mw_Md_87 : Cond.methodLink "SiteswapStudioModel" 87 y_Md_isValid ∈ jl_T := jl_in (List.mem_of_getElem? (i := 883) (by decide +kernel)) (by decide +kernel)
theorem mw_Md_90 : Cond.methodLink "SiteswapStudioModel" 90 y_Md_ballsOf ∈ jl_T := jl_in (List.mem_of_getElem? (i := 907) (by decide +kernel)) (by decide +kernel)
theorem mw_Md_93 : Cond.methodLink "SiteswapStudioModel" 93 y_Md_stateOf ∈ jl_T := jl_in (List.mem_of_getElem? (i := 915) (by decide +kernel)) (by decide +kernel)
theorem mw_Md_96 : Cond.methodLink "SiteswapStudioModel" 96 y_Md_lower ∈ jl_T := jl_in (List.mem_of_getElem? (i := 927) (by decide +kernel)) (by decide +kernel)
theorem mw_Md_100 : Cond.methodLink "SiteswapStudioModel" 100 y_Md_copy ∈ jl_T := jl_in (List.mem_of_getElem? (i := 939) (by decide +kernel)) (by decide +kernel)
theorem mw_Md_104 : Cond.methodLink "SiteswapStudioModel" 104 y_Md_behind ∈ jl_T := jl_in (List.mem_of_getElem? (i := 955) (by decide +kernel)) (by decide +kernel)
theorem mw_Md_107 : Cond.methodLink "SiteswapStudioModel" 107 y_Md_measure ∈ jl_T := jl_in (List.mem_of_getElem? (i := 951) (by decide +kernel)) (by decide +kernel)
theorem mw_Md_117 : Cond.methodLink "SiteswapStudioModel" 117 y_Md_rowState ∈ jl_T := jl_in (List.mem_of_getElem? (i := 978) (by decide +kernel)) (by decide +kernel)
theorem mw_Md_120 : Cond.methodLink "SiteswapStudioModel" 120 y_Md_rowIsCycle ∈ jl_T := jl_in (List.mem_of_getElem? (i := 974) (by decide +kernel)) (by decide +kernel)
theorem mw_Md_123 : Cond.methodLink "SiteswapStudioModel" 123 y_Md_comes ∈ jl_T := jl_in (List.mem_of_getElem? (i := 990) (by decide +kernel)) (by decide +kernel)
theorem mw_Md_138 : Cond.methodLink "SiteswapStudioModel" 138 y_Md_enter ∈ jl_T := jl_in (List.mem_of_getElem? (i := 986) (by decide +kernel)) (by decide +kernel)
theorem mw_Md_141 : Cond.methodLink "SiteswapStudioModel" 141 y_Md_handOf ∈ jl_T := jl_in (List.mem_of_getElem? (i := 1006) (by decide +kernel)) (by decide +kernel)
theorem mw_Md_144 : Cond.methodLink "SiteswapStudioModel" 144 y_Md_fly ∈ jl_T := jl_in (List.mem_of_getElem? (i := 1002) (by decide +kernel)) (by decide +kernel)
theorem mw_Md_147 : Cond.methodLink "SiteswapStudioModel" 147 y_Md_beat ∈ jl_T := jl_in (List.mem_of_getElem? (i := 998) (by decide +kernel)) (by decide +kernel)
theorem cw_St_init : jl_cw m_St_init ∈ jl_T := jl_in (List.mem_of_getElem? (i := 66) (by decide +kernel)) (by decide +kernel)
theorem ww_St_init : Cond.instanceMethod y_St_init ∈ jl_T := jl_in (List.mem_of_getElem? (i := 65) (by decide +kernel)) (by decide +kernel)
theorem cw_Dr_init : jl_cw m_Dr_init ∈ jl_T := jl_in (List.mem_of_getElem? (i := 74) (by decide +kernel)) (by decide +kernel)
theorem ww_Dr_init : Cond.instanceMethod y_Dr_init ∈ jl_T := jl_in (List.mem_of_getElem? (i := 73) (by decide +kernel)) (by decide +kernel)
theorem cw_Jo_init : jl_cw m_Jo_init ∈ jl_T := jl_in (List.mem_of_getElem? (i := 105) (by decide +kernel)) (by decide +kernel)
theorem ww_Jo_init : Cond.instanceMethod y_Jo_init ∈ jl_T := jl_in (List.mem_of_getElem? (i := 104) (by decide +kernel)) (by decide +kernel)
theorem cw_Cn_init : jl_cw m_Cn_init ∈ jl_T := jl_in (List.mem_of_getElem? (i := 140) (by decide +kernel)) (by decide +kernel)
theorem ww_Cn_init : Cond.instanceMethod y_Cn_init ∈ jl_T := jl_in (List.mem_of_getElem? (i := 139) (by decide +kernel)) (by decide +kernel)
theorem cw_Cy_init : jl_cw m_Cy_init ∈ jl_T := jl_in (List.mem_of_getElem? (i := 150) (by decide +kernel)) (by decide +kernel)
theorem ww_Cy_init : Cond.instanceMethod y_Cy_init ∈ jl_T := jl_in (List.mem_of_getElem? (i := 149) (by decide +kernel)) (by decide +kernel)
theorem cw_Sg_init : jl_cw m_Sg_init ∈ jl_T := jl_in (List.mem_of_getElem? (i := 165) (by decide +kernel)) (by decide +kernel)
theorem ww_Sg_init : Cond.instanceMethod y_Sg_init ∈ jl_T := jl_in (List.mem_of_getElem? (i := 164) (by decide +kernel)) (by decide +kernel)
theorem cw_St_valid : jl_cw m_St_valid ∈ jl_T := jl_in (List.mem_of_getElem? (i := 217) (by decide +kernel)) (by decide +kernel)
theorem ww_St_valid : Cond.instanceMethod y_St_valid ∈ jl_T := jl_in (List.mem_of_getElem? (i := 215) (by decide +kernel)) (by decide +kernel)
theorem sw_St_valid : Cond.selects r_St y_St_valid y_St_valid ∈ jl_T := jl_in (List.mem_of_getElem? (i := 216) (by decide +kernel)) (by decide +kernel)
theorem cw_Dr_isValid : jl_cw m_Dr_isValid ∈ jl_T := jl_in (List.mem_of_getElem? (i := 221) (by decide +kernel)) (by decide +kernel)
theorem ww_Dr_isValid : Cond.instanceMethod y_Dr_isValid ∈ jl_T := jl_in (List.mem_of_getElem? (i := 219) (by decide +kernel)) (by decide +kernel)
theorem sw_Dr_isValid : Cond.selects r_Dr y_Dr_isValid y_Dr_isValid ∈ jl_T := jl_in (List.mem_of_getElem? (i := 220) (by decide +kernel)) (by decide +kernel)
theorem cw_Dr_firstClash : jl_cw m_Dr_firstClash ∈ jl_T := jl_in (List.mem_of_getElem? (i := 225) (by decide +kernel)) (by decide +kernel)
theorem ww_Dr_firstClash : Cond.instanceMethod y_Dr_firstClash ∈ jl_T := jl_in (List.mem_of_getElem? (i := 223) (by decide +kernel)) (by decide +kernel)
theorem sw_Dr_firstClash : Cond.selects r_Dr y_Dr_firstClash y_Dr_firstClash ∈ jl_T := jl_in (List.mem_of_getElem? (i := 224) (by decide +kernel)) (by decide +kernel)
theorem cw_Ar_fill : jl_cw m_Ar_fill ∈ jl_T := jl_in (List.mem_of_getElem? (i := 228) (by decide +kernel)) (by decide +kernel)
theorem ww_Ar_fill : Cond.static y_Ar_fill ∈ jl_T := jl_in (List.mem_of_getElem? (i := 227) (by decide +kernel)) (by decide +kernel)
theorem cw_Dr_firstUneven : jl_cw m_Dr_firstUneven ∈ jl_T := jl_in (List.mem_of_getElem? (i := 232) (by decide +kernel)) (by decide +kernel)
theorem ww_Dr_firstUneven : Cond.instanceMethod y_Dr_firstUneven ∈ jl_T := jl_in (List.mem_of_getElem? (i := 231) (by decide +kernel)) (by decide +kernel)
theorem sw_Dr_firstUneven : Cond.selects r_Dr y_Dr_firstUneven y_Dr_firstUneven ∈ jl_T := jl_in (List.mem_of_getElem? (i := 0) (by decide +kernel)) (by decide +kernel)
theorem cw_Dr_heightOf : jl_cw m_Dr_heightOf ∈ jl_T := jl_in (List.mem_of_getElem? (i := 236) (by decide +kernel)) (by decide +kernel)
theorem ww_Dr_heightOf : Cond.instanceMethod y_Dr_heightOf ∈ jl_T := jl_in (List.mem_of_getElem? (i := 234) (by decide +kernel)) (by decide +kernel)
theorem sw_Dr_heightOf : Cond.selects r_Dr y_Dr_heightOf y_Dr_heightOf ∈ jl_T := jl_in (List.mem_of_getElem? (i := 235) (by decide +kernel)) (by decide +kernel)
theorem cw_Dr_landingSite : jl_cw m_Dr_landingSite ∈ jl_T := jl_in (List.mem_of_getElem? (i := 240) (by decide +kernel)) (by decide +kernel)
theorem ww_Dr_landingSite : Cond.instanceMethod y_Dr_landingSite ∈ jl_T := jl_in (List.mem_of_getElem? (i := 239) (by decide +kernel)) (by decide +kernel)
theorem sw_Dr_landingSite : Cond.selects r_Dr y_Dr_landingSite y_Dr_landingSite ∈ jl_T := jl_in (List.mem_of_getElem? (i := 1) (by decide +kernel)) (by decide +kernel)
theorem cw_St_wrap : jl_cw m_St_wrap ∈ jl_T := jl_in (List.mem_of_getElem? (i := 243) (by decide +kernel)) (by decide +kernel)
theorem ww_St_wrap : Cond.static y_St_wrap ∈ jl_T := jl_in (List.mem_of_getElem? (i := 242) (by decide +kernel)) (by decide +kernel)
theorem cw_Dr_landingHand : jl_cw m_Dr_landingHand ∈ jl_T := jl_in (List.mem_of_getElem? (i := 247) (by decide +kernel)) (by decide +kernel)
theorem ww_Dr_landingHand : Cond.instanceMethod y_Dr_landingHand ∈ jl_T := jl_in (List.mem_of_getElem? (i := 245) (by decide +kernel)) (by decide +kernel)
theorem sw_Dr_landingHand : Cond.selects r_Dr y_Dr_landingHand y_Dr_landingHand ∈ jl_T := jl_in (List.mem_of_getElem? (i := 246) (by decide +kernel)) (by decide +kernel)
theorem cw_Dr_firstMeeting : jl_cw m_Dr_firstMeeting ∈ jl_T := jl_in (List.mem_of_getElem? (i := 251) (by decide +kernel)) (by decide +kernel)
theorem ww_Dr_firstMeeting : Cond.instanceMethod y_Dr_firstMeeting ∈ jl_T := jl_in (List.mem_of_getElem? (i := 250) (by decide +kernel)) (by decide +kernel)
theorem sw_Dr_firstMeeting : Cond.selects r_Dr y_Dr_firstMeeting y_Dr_firstMeeting ∈ jl_T := jl_in (List.mem_of_getElem? (i := 2) (by decide +kernel)) (by decide +kernel)
theorem cw_Dr_firstHeight : jl_cw m_Dr_firstHeight ∈ jl_T := jl_in (List.mem_of_getElem? (i := 255) (by decide +kernel)) (by decide +kernel)
theorem ww_Dr_firstHeight : Cond.instanceMethod y_Dr_firstHeight ∈ jl_T := jl_in (List.mem_of_getElem? (i := 253) (by decide +kernel)) (by decide +kernel)
theorem sw_Dr_firstHeight : Cond.selects r_Dr y_Dr_firstHeight y_Dr_firstHeight ∈ jl_T := jl_in (List.mem_of_getElem? (i := 254) (by decide +kernel)) (by decide +kernel)
theorem cw_St_clash : jl_cw m_St_clash ∈ jl_T := jl_in (List.mem_of_getElem? (i := 259) (by decide +kernel)) (by decide +kernel)
theorem ww_St_clash : Cond.instanceMethod y_St_clash ∈ jl_T := jl_in (List.mem_of_getElem? (i := 257) (by decide +kernel)) (by decide +kernel)
theorem sw_St_clash : Cond.selects r_St y_St_clash y_St_clash ∈ jl_T := jl_in (List.mem_of_getElem? (i := 258) (by decide +kernel)) (by decide +kernel)
theorem cw_St_highest : jl_cw m_St_highest ∈ jl_T := jl_in (List.mem_of_getElem? (i := 264) (by decide +kernel)) (by decide +kernel)
theorem ww_St_highest : Cond.instanceMethod y_St_highest ∈ jl_T := jl_in (List.mem_of_getElem? (i := 262) (by decide +kernel)) (by decide +kernel)
theorem sw_St_highest : Cond.selects r_St y_St_highest y_St_highest ∈ jl_T := jl_in (List.mem_of_getElem? (i := 263) (by decide +kernel)) (by decide +kernel)
theorem cw_Sg_lastToLand : jl_cw m_Sg_lastToLand ∈ jl_T := jl_in (List.mem_of_getElem? (i := 268) (by decide +kernel)) (by decide +kernel)
theorem ww_Sg_lastToLand : Cond.instanceMethod y_Sg_lastToLand ∈ jl_T := jl_in (List.mem_of_getElem? (i := 266) (by decide +kernel)) (by decide +kernel)
theorem sw_Sg_lastToLand : Cond.selects r_Sg y_Sg_lastToLand y_Sg_lastToLand ∈ jl_T := jl_in (List.mem_of_getElem? (i := 267) (by decide +kernel)) (by decide +kernel)
theorem cw_Lw_begin : jl_cw m_Lw_begin ∈ jl_T := jl_in (List.mem_of_getElem? (i := 271) (by decide +kernel)) (by decide +kernel)
theorem ww_Lw_begin : Cond.static y_Lw_begin ∈ jl_T := jl_in (List.mem_of_getElem? (i := 270) (by decide +kernel)) (by decide +kernel)
theorem cw_St_begin : jl_cw m_St_begin ∈ jl_T := jl_in (List.mem_of_getElem? (i := 276) (by decide +kernel)) (by decide +kernel)
theorem ww_St_begin : Cond.instanceMethod y_St_begin ∈ jl_T := jl_in (List.mem_of_getElem? (i := 274) (by decide +kernel)) (by decide +kernel)
theorem sw_St_begin : Cond.selects r_St y_St_begin y_St_begin ∈ jl_T := jl_in (List.mem_of_getElem? (i := 275) (by decide +kernel)) (by decide +kernel)
theorem cw_St_isOdd : jl_cw m_St_isOdd ∈ jl_T := jl_in (List.mem_of_getElem? (i := 348) (by decide +kernel)) (by decide +kernel)
theorem ww_St_isOdd : Cond.static y_St_isOdd ∈ jl_T := jl_in (List.mem_of_getElem? (i := 347) (by decide +kernel)) (by decide +kernel)
theorem cw_Dr_clear : jl_cw m_Dr_clear ∈ jl_T := jl_in (List.mem_of_getElem? (i := 353) (by decide +kernel)) (by decide +kernel)
theorem ww_Dr_clear : Cond.instanceMethod y_Dr_clear ∈ jl_T := jl_in (List.mem_of_getElem? (i := 351) (by decide +kernel)) (by decide +kernel)
theorem sw_Dr_clear : Cond.selects r_Dr y_Dr_clear y_Dr_clear ∈ jl_T := jl_in (List.mem_of_getElem? (i := 352) (by decide +kernel)) (by decide +kernel)
theorem cw_Lw_put : jl_cw m_Lw_put ∈ jl_T := jl_in (List.mem_of_getElem? (i := 356) (by decide +kernel)) (by decide +kernel)
theorem ww_Lw_put : Cond.static y_Lw_put ∈ jl_T := jl_in (List.mem_of_getElem? (i := 355) (by decide +kernel)) (by decide +kernel)
theorem cw_St_put : jl_cw m_St_put ∈ jl_T := jl_in (List.mem_of_getElem? (i := 361) (by decide +kernel)) (by decide +kernel)
theorem ww_St_put : Cond.instanceMethod y_St_put ∈ jl_T := jl_in (List.mem_of_getElem? (i := 359) (by decide +kernel)) (by decide +kernel)
theorem sw_St_put : Cond.selects r_St y_St_put y_St_put ∈ jl_T := jl_in (List.mem_of_getElem? (i := 360) (by decide +kernel)) (by decide +kernel)
theorem cw_St_requireSite : jl_cw m_St_requireSite ∈ jl_T := jl_in (List.mem_of_getElem? (i := 365) (by decide +kernel)) (by decide +kernel)
theorem ww_St_requireSite : Cond.instanceMethod y_St_requireSite ∈ jl_T := jl_in (List.mem_of_getElem? (i := 364) (by decide +kernel)) (by decide +kernel)
theorem sw_St_requireSite : Cond.selects r_St y_St_requireSite y_St_requireSite ∈ jl_T := jl_in (List.mem_of_getElem? (i := 4) (by decide +kernel)) (by decide +kernel)
theorem cw_Dr_hasSite : jl_cw m_Dr_hasSite ∈ jl_T := jl_in (List.mem_of_getElem? (i := 369) (by decide +kernel)) (by decide +kernel)
theorem ww_Dr_hasSite : Cond.instanceMethod y_Dr_hasSite ∈ jl_T := jl_in (List.mem_of_getElem? (i := 367) (by decide +kernel)) (by decide +kernel)
theorem sw_Dr_hasSite : Cond.selects r_Dr y_Dr_hasSite y_Dr_hasSite ∈ jl_T := jl_in (List.mem_of_getElem? (i := 368) (by decide +kernel)) (by decide +kernel)
theorem cw_St_requireHeight : jl_cw m_St_requireHeight ∈ jl_T := jl_in (List.mem_of_getElem? (i := 388) (by decide +kernel)) (by decide +kernel)
theorem ww_St_requireHeight : Cond.static y_St_requireHeight ∈ jl_T := jl_in (List.mem_of_getElem? (i := 387) (by decide +kernel)) (by decide +kernel)
theorem cw_Dr_setFirst : jl_cw m_Dr_setFirst ∈ jl_T := jl_in (List.mem_of_getElem? (i := 395) (by decide +kernel)) (by decide +kernel)
theorem ww_Dr_setFirst : Cond.instanceMethod y_Dr_setFirst ∈ jl_T := jl_in (List.mem_of_getElem? (i := 393) (by decide +kernel)) (by decide +kernel)
theorem sw_Dr_setFirst : Cond.selects r_Dr y_Dr_setFirst y_Dr_setFirst ∈ jl_T := jl_in (List.mem_of_getElem? (i := 394) (by decide +kernel)) (by decide +kernel)
theorem cw_Lw_add : jl_cw m_Lw_add ∈ jl_T := jl_in (List.mem_of_getElem? (i := 398) (by decide +kernel)) (by decide +kernel)
theorem ww_Lw_add : Cond.static y_Lw_add ∈ jl_T := jl_in (List.mem_of_getElem? (i := 397) (by decide +kernel)) (by decide +kernel)
theorem cw_St_add : jl_cw m_St_add ∈ jl_T := jl_in (List.mem_of_getElem? (i := 403) (by decide +kernel)) (by decide +kernel)
theorem ww_St_add : Cond.instanceMethod y_St_add ∈ jl_T := jl_in (List.mem_of_getElem? (i := 401) (by decide +kernel)) (by decide +kernel)
theorem sw_St_add : Cond.selects r_St y_St_add y_St_add ∈ jl_T := jl_in (List.mem_of_getElem? (i := 402) (by decide +kernel)) (by decide +kernel)
theorem cw_Dr_throwsOf : jl_cw m_Dr_throwsOf ∈ jl_T := jl_in (List.mem_of_getElem? (i := 423) (by decide +kernel)) (by decide +kernel)
theorem ww_Dr_throwsOf : Cond.instanceMethod y_Dr_throwsOf ∈ jl_T := jl_in (List.mem_of_getElem? (i := 421) (by decide +kernel)) (by decide +kernel)
theorem sw_Dr_throwsOf : Cond.selects r_Dr y_Dr_throwsOf y_Dr_throwsOf ∈ jl_T := jl_in (List.mem_of_getElem? (i := 422) (by decide +kernel)) (by decide +kernel)
theorem cw_Dr_append : jl_cw m_Dr_append ∈ jl_T := jl_in (List.mem_of_getElem? (i := 428) (by decide +kernel)) (by decide +kernel)
theorem ww_Dr_append : Cond.instanceMethod y_Dr_append ∈ jl_T := jl_in (List.mem_of_getElem? (i := 426) (by decide +kernel)) (by decide +kernel)
theorem sw_Dr_append : Cond.selects r_Dr y_Dr_append y_Dr_append ∈ jl_T := jl_in (List.mem_of_getElem? (i := 427) (by decide +kernel)) (by decide +kernel)
theorem cw_Lw_balls : jl_cw m_Lw_balls ∈ jl_T := jl_in (List.mem_of_getElem? (i := 431) (by decide +kernel)) (by decide +kernel)
theorem ww_Lw_balls : Cond.static y_Lw_balls ∈ jl_T := jl_in (List.mem_of_getElem? (i := 430) (by decide +kernel)) (by decide +kernel)
theorem cw_St_balls : jl_cw m_St_balls ∈ jl_T := jl_in (List.mem_of_getElem? (i := 435) (by decide +kernel)) (by decide +kernel)
theorem ww_St_balls : Cond.instanceMethod y_St_balls ∈ jl_T := jl_in (List.mem_of_getElem? (i := 433) (by decide +kernel)) (by decide +kernel)
theorem sw_St_balls : Cond.selects r_St y_St_balls y_St_balls ∈ jl_T := jl_in (List.mem_of_getElem? (i := 434) (by decide +kernel)) (by decide +kernel)
theorem cw_St_requireValid : jl_cw m_St_requireValid ∈ jl_T := jl_in (List.mem_of_getElem? (i := 439) (by decide +kernel)) (by decide +kernel)
theorem ww_St_requireValid : Cond.instanceMethod y_St_requireValid ∈ jl_T := jl_in (List.mem_of_getElem? (i := 438) (by decide +kernel)) (by decide +kernel)
theorem sw_St_requireValid : Cond.selects r_St y_St_requireValid y_St_requireValid ∈ jl_T := jl_in (List.mem_of_getElem? (i := 5) (by decide +kernel)) (by decide +kernel)
theorem cw_Dr_ballCount : jl_cw m_Dr_ballCount ∈ jl_T := jl_in (List.mem_of_getElem? (i := 444) (by decide +kernel)) (by decide +kernel)
theorem ww_Dr_ballCount : Cond.instanceMethod y_Dr_ballCount ∈ jl_T := jl_in (List.mem_of_getElem? (i := 442) (by decide +kernel)) (by decide +kernel)
theorem sw_Dr_ballCount : Cond.selects r_Dr y_Dr_ballCount y_Dr_ballCount ∈ jl_T := jl_in (List.mem_of_getElem? (i := 443) (by decide +kernel)) (by decide +kernel)
theorem cw_Lw_state : jl_cw m_Lw_state ∈ jl_T := jl_in (List.mem_of_getElem? (i := 447) (by decide +kernel)) (by decide +kernel)
theorem ww_Lw_state : Cond.static y_Lw_state ∈ jl_T := jl_in (List.mem_of_getElem? (i := 446) (by decide +kernel)) (by decide +kernel)
theorem cw_St_state : jl_cw m_St_state ∈ jl_T := jl_in (List.mem_of_getElem? (i := 451) (by decide +kernel)) (by decide +kernel)
theorem ww_St_state : Cond.instanceMethod y_St_state ∈ jl_T := jl_in (List.mem_of_getElem? (i := 449) (by decide +kernel)) (by decide +kernel)
theorem sw_St_state : Cond.selects r_St y_St_state y_St_state ∈ jl_T := jl_in (List.mem_of_getElem? (i := 450) (by decide +kernel)) (by decide +kernel)
theorem cw_St_requirePlain : jl_cw m_St_requirePlain ∈ jl_T := jl_in (List.mem_of_getElem? (i := 455) (by decide +kernel)) (by decide +kernel)
theorem ww_St_requirePlain : Cond.instanceMethod y_St_requirePlain ∈ jl_T := jl_in (List.mem_of_getElem? (i := 454) (by decide +kernel)) (by decide +kernel)
theorem sw_St_requirePlain : Cond.selects r_St y_St_requirePlain y_St_requirePlain ∈ jl_T := jl_in (List.mem_of_getElem? (i := 6) (by decide +kernel)) (by decide +kernel)
theorem cw_Dr_stateBefore : jl_cw m_Dr_stateBefore ∈ jl_T := jl_in (List.mem_of_getElem? (i := 460) (by decide +kernel)) (by decide +kernel)
theorem ww_Dr_stateBefore : Cond.instanceMethod y_Dr_stateBefore ∈ jl_T := jl_in (List.mem_of_getElem? (i := 458) (by decide +kernel)) (by decide +kernel)
theorem sw_Dr_stateBefore : Cond.selects r_Dr y_Dr_stateBefore y_Dr_stateBefore ∈ jl_T := jl_in (List.mem_of_getElem? (i := 459) (by decide +kernel)) (by decide +kernel)
theorem cw_Lw_swap : jl_cw m_Lw_swap ∈ jl_T := jl_in (List.mem_of_getElem? (i := 463) (by decide +kernel)) (by decide +kernel)
theorem ww_Lw_swap : Cond.static y_Lw_swap ∈ jl_T := jl_in (List.mem_of_getElem? (i := 462) (by decide +kernel)) (by decide +kernel)
theorem cw_St_swap : jl_cw m_St_swap ∈ jl_T := jl_in (List.mem_of_getElem? (i := 467) (by decide +kernel)) (by decide +kernel)
theorem ww_St_swap : Cond.instanceMethod y_St_swap ∈ jl_T := jl_in (List.mem_of_getElem? (i := 465) (by decide +kernel)) (by decide +kernel)
end
section
theorem sw_St_swap : Cond.selects r_St y_St_swap y_St_swap ∈ jl_T := jl_in (List.mem_of_getElem? (i := 466) (by decide +kernel)) (by decide +kernel)
theorem cw_Dr_swapLandings : jl_cw m_Dr_swapLandings ∈ jl_T := jl_in (List.mem_of_getElem? (i := 471) (by decide +kernel)) (by decide +kernel)
theorem ww_Dr_swapLandings : Cond.instanceMethod y_Dr_swapLandings ∈ jl_T := jl_in (List.mem_of_getElem? (i := 469) (by decide +kernel)) (by decide +kernel)
theorem sw_Dr_swapLandings : Cond.selects r_Dr y_Dr_swapLandings y_Dr_swapLandings ∈ jl_T := jl_in (List.mem_of_getElem? (i := 470) (by decide +kernel)) (by decide +kernel)
theorem cw_Lw_canonical : jl_cw m_Lw_canonical ∈ jl_T := jl_in (List.mem_of_getElem? (i := 475) (by decide +kernel)) (by decide +kernel)
theorem ww_Lw_canonical : Cond.static y_Lw_canonical ∈ jl_T := jl_in (List.mem_of_getElem? (i := 474) (by decide +kernel)) (by decide +kernel)
theorem cw_St_canonical : jl_cw m_St_canonical ∈ jl_T := jl_in (List.mem_of_getElem? (i := 479) (by decide +kernel)) (by decide +kernel)
theorem ww_St_canonical : Cond.instanceMethod y_St_canonical ∈ jl_T := jl_in (List.mem_of_getElem? (i := 477) (by decide +kernel)) (by decide +kernel)
theorem sw_St_canonical : Cond.selects r_St y_St_canonical y_St_canonical ∈ jl_T := jl_in (List.mem_of_getElem? (i := 478) (by decide +kernel)) (by decide +kernel)
theorem cw_Dr_leastRotation : jl_cw m_Dr_leastRotation ∈ jl_T := jl_in (List.mem_of_getElem? (i := 483) (by decide +kernel)) (by decide +kernel)
theorem ww_Dr_leastRotation : Cond.instanceMethod y_Dr_leastRotation ∈ jl_T := jl_in (List.mem_of_getElem? (i := 481) (by decide +kernel)) (by decide +kernel)
theorem sw_Dr_leastRotation : Cond.selects r_Dr y_Dr_leastRotation y_Dr_leastRotation ∈ jl_T := jl_in (List.mem_of_getElem? (i := 482) (by decide +kernel)) (by decide +kernel)
theorem cw_Dr_isRotationLess : jl_cw m_Dr_isRotationLess ∈ jl_T := jl_in (List.mem_of_getElem? (i := 487) (by decide +kernel)) (by decide +kernel)
theorem ww_Dr_isRotationLess : Cond.instanceMethod y_Dr_isRotationLess ∈ jl_T := jl_in (List.mem_of_getElem? (i := 486) (by decide +kernel)) (by decide +kernel)
theorem sw_Dr_isRotationLess : Cond.selects r_Dr y_Dr_isRotationLess y_Dr_isRotationLess ∈ jl_T := jl_in (List.mem_of_getElem? (i := 7) (by decide +kernel)) (by decide +kernel)
theorem cw_Dr_rotateTo : jl_cw m_Dr_rotateTo ∈ jl_T := jl_in (List.mem_of_getElem? (i := 491) (by decide +kernel)) (by decide +kernel)
theorem ww_Dr_rotateTo : Cond.instanceMethod y_Dr_rotateTo ∈ jl_T := jl_in (List.mem_of_getElem? (i := 489) (by decide +kernel)) (by decide +kernel)
theorem sw_Dr_rotateTo : Cond.selects r_Dr y_Dr_rotateTo y_Dr_rotateTo ∈ jl_T := jl_in (List.mem_of_getElem? (i := 490) (by decide +kernel)) (by decide +kernel)
theorem cw_Lw_height : jl_cw m_Lw_height ∈ jl_T := jl_in (List.mem_of_getElem? (i := 494) (by decide +kernel)) (by decide +kernel)
theorem ww_Lw_height : Cond.static y_Lw_height ∈ jl_T := jl_in (List.mem_of_getElem? (i := 493) (by decide +kernel)) (by decide +kernel)
theorem cw_St_height : jl_cw m_St_height ∈ jl_T := jl_in (List.mem_of_getElem? (i := 498) (by decide +kernel)) (by decide +kernel)
theorem ww_St_height : Cond.instanceMethod y_St_height ∈ jl_T := jl_in (List.mem_of_getElem? (i := 496) (by decide +kernel)) (by decide +kernel)
theorem sw_St_height : Cond.selects r_St y_St_height y_St_height ∈ jl_T := jl_in (List.mem_of_getElem? (i := 497) (by decide +kernel)) (by decide +kernel)
theorem cw_Dr_crossingOf : jl_cw m_Dr_crossingOf ∈ jl_T := jl_in (List.mem_of_getElem? (i := 504) (by decide +kernel)) (by decide +kernel)
theorem ww_Dr_crossingOf : Cond.instanceMethod y_Dr_crossingOf ∈ jl_T := jl_in (List.mem_of_getElem? (i := 502) (by decide +kernel)) (by decide +kernel)
theorem sw_Dr_crossingOf : Cond.selects r_Dr y_Dr_crossingOf y_Dr_crossingOf ∈ jl_T := jl_in (List.mem_of_getElem? (i := 503) (by decide +kernel)) (by decide +kernel)
theorem cw_Lw_save : jl_cw m_Lw_save ∈ jl_T := jl_in (List.mem_of_getElem? (i := 507) (by decide +kernel)) (by decide +kernel)
theorem ww_Lw_save : Cond.static y_Lw_save ∈ jl_T := jl_in (List.mem_of_getElem? (i := 506) (by decide +kernel)) (by decide +kernel)
theorem cw_St_save : jl_cw m_St_save ∈ jl_T := jl_in (List.mem_of_getElem? (i := 511) (by decide +kernel)) (by decide +kernel)
theorem ww_St_save : Cond.instanceMethod y_St_save ∈ jl_T := jl_in (List.mem_of_getElem? (i := 509) (by decide +kernel)) (by decide +kernel)
theorem sw_St_save : Cond.selects r_St y_St_save y_St_save ∈ jl_T := jl_in (List.mem_of_getElem? (i := 510) (by decide +kernel)) (by decide +kernel)
theorem cw_St_requireSlot : jl_cw m_St_requireSlot ∈ jl_T := jl_in (List.mem_of_getElem? (i := 514) (by decide +kernel)) (by decide +kernel)
theorem ww_St_requireSlot : Cond.static y_St_requireSlot ∈ jl_T := jl_in (List.mem_of_getElem? (i := 513) (by decide +kernel)) (by decide +kernel)
theorem cw_Dr_copyFrom : jl_cw m_Dr_copyFrom ∈ jl_T := jl_in (List.mem_of_getElem? (i := 519) (by decide +kernel)) (by decide +kernel)
theorem ww_Dr_copyFrom : Cond.instanceMethod y_Dr_copyFrom ∈ jl_T := jl_in (List.mem_of_getElem? (i := 517) (by decide +kernel)) (by decide +kernel)
theorem sw_Dr_copyFrom : Cond.selects r_Dr y_Dr_copyFrom y_Dr_copyFrom ∈ jl_T := jl_in (List.mem_of_getElem? (i := 518) (by decide +kernel)) (by decide +kernel)
theorem cw_Lw_load : jl_cw m_Lw_load ∈ jl_T := jl_in (List.mem_of_getElem? (i := 525) (by decide +kernel)) (by decide +kernel)
theorem ww_Lw_load : Cond.static y_Lw_load ∈ jl_T := jl_in (List.mem_of_getElem? (i := 524) (by decide +kernel)) (by decide +kernel)
theorem cw_St_load : jl_cw m_St_load ∈ jl_T := jl_in (List.mem_of_getElem? (i := 530) (by decide +kernel)) (by decide +kernel)
theorem ww_St_load : Cond.instanceMethod y_St_load ∈ jl_T := jl_in (List.mem_of_getElem? (i := 528) (by decide +kernel)) (by decide +kernel)
theorem sw_St_load : Cond.selects r_St y_St_load y_St_load ∈ jl_T := jl_in (List.mem_of_getElem? (i := 529) (by decide +kernel)) (by decide +kernel)
theorem cw_Lw_join : jl_cw m_Lw_join ∈ jl_T := jl_in (List.mem_of_getElem? (i := 549) (by decide +kernel)) (by decide +kernel)
theorem ww_Lw_join : Cond.static y_Lw_join ∈ jl_T := jl_in (List.mem_of_getElem? (i := 548) (by decide +kernel)) (by decide +kernel)
theorem cw_St_join : jl_cw m_St_join ∈ jl_T := jl_in (List.mem_of_getElem? (i := 553) (by decide +kernel)) (by decide +kernel)
theorem ww_St_join : Cond.instanceMethod y_St_join ∈ jl_T := jl_in (List.mem_of_getElem? (i := 551) (by decide +kernel)) (by decide +kernel)
theorem sw_St_join : Cond.selects r_St y_St_join y_St_join ∈ jl_T := jl_in (List.mem_of_getElem? (i := 552) (by decide +kernel)) (by decide +kernel)
theorem cw_Dr_isPlainAndValid : jl_cw m_Dr_isPlainAndValid ∈ jl_T := jl_in (List.mem_of_getElem? (i := 557) (by decide +kernel)) (by decide +kernel)
theorem ww_Dr_isPlainAndValid : Cond.instanceMethod y_Dr_isPlainAndValid ∈ jl_T := jl_in (List.mem_of_getElem? (i := 555) (by decide +kernel)) (by decide +kernel)
theorem sw_Dr_isPlainAndValid : Cond.selects r_Dr y_Dr_isPlainAndValid y_Dr_isPlainAndValid ∈ jl_T := jl_in (List.mem_of_getElem? (i := 556) (by decide +kernel)) (by decide +kernel)
theorem cw_Jo_connect : jl_cw m_Jo_connect ∈ jl_T := jl_in (List.mem_of_getElem? (i := 563) (by decide +kernel)) (by decide +kernel)
theorem ww_Jo_connect : Cond.instanceMethod y_Jo_connect ∈ jl_T := jl_in (List.mem_of_getElem? (i := 561) (by decide +kernel)) (by decide +kernel)
theorem sw_Jo_connect : Cond.selects r_Jo y_Jo_connect y_Jo_connect ∈ jl_T := jl_in (List.mem_of_getElem? (i := 562) (by decide +kernel)) (by decide +kernel)
theorem cw_Jo_measureDistances : jl_cw m_Jo_measureDistances ∈ jl_T := jl_in (List.mem_of_getElem? (i := 567) (by decide +kernel)) (by decide +kernel)
theorem ww_Jo_measureDistances : Cond.instanceMethod y_Jo_measureDistances ∈ jl_T := jl_in (List.mem_of_getElem? (i := 566) (by decide +kernel)) (by decide +kernel)
theorem sw_Jo_measureDistances : Cond.selects r_Jo y_Jo_measureDistances y_Jo_measureDistances ∈ jl_T := jl_in (List.mem_of_getElem? (i := 8) (by decide +kernel)) (by decide +kernel)
theorem cw_Jo_reach : jl_cw m_Jo_reach ∈ jl_T := jl_in (List.mem_of_getElem? (i := 573) (by decide +kernel)) (by decide +kernel)
theorem ww_Jo_reach : Cond.instanceMethod y_Jo_reach ∈ jl_T := jl_in (List.mem_of_getElem? (i := 572) (by decide +kernel)) (by decide +kernel)
theorem sw_Jo_reach : Cond.selects r_Jo y_Jo_reach y_Jo_reach ∈ jl_T := jl_in (List.mem_of_getElem? (i := 9) (by decide +kernel)) (by decide +kernel)
theorem cw_St_stateFrom : jl_cw m_St_stateFrom ∈ jl_T := jl_in (List.mem_of_getElem? (i := 576) (by decide +kernel)) (by decide +kernel)
theorem ww_St_stateFrom : Cond.static y_St_stateFrom ∈ jl_T := jl_in (List.mem_of_getElem? (i := 575) (by decide +kernel)) (by decide +kernel)
theorem cw_Jo_nearestSite : jl_cw m_Jo_nearestSite ∈ jl_T := jl_in (List.mem_of_getElem? (i := 580) (by decide +kernel)) (by decide +kernel)
theorem ww_Jo_nearestSite : Cond.instanceMethod y_Jo_nearestSite ∈ jl_T := jl_in (List.mem_of_getElem? (i := 579) (by decide +kernel)) (by decide +kernel)
theorem sw_Jo_nearestSite : Cond.selects r_Jo y_Jo_nearestSite y_Jo_nearestSite ∈ jl_T := jl_in (List.mem_of_getElem? (i := 10) (by decide +kernel)) (by decide +kernel)
theorem cw_Jo_distanceOf : jl_cw m_Jo_distanceOf ∈ jl_T := jl_in (List.mem_of_getElem? (i := 584) (by decide +kernel)) (by decide +kernel)
theorem ww_Jo_distanceOf : Cond.instanceMethod y_Jo_distanceOf ∈ jl_T := jl_in (List.mem_of_getElem? (i := 583) (by decide +kernel)) (by decide +kernel)
theorem sw_Jo_distanceOf : Cond.selects r_Jo y_Jo_distanceOf y_Jo_distanceOf ∈ jl_T := jl_in (List.mem_of_getElem? (i := 11) (by decide +kernel)) (by decide +kernel)
theorem cw_Jo_walk : jl_cw m_Jo_walk ∈ jl_T := jl_in (List.mem_of_getElem? (i := 588) (by decide +kernel)) (by decide +kernel)
theorem ww_Jo_walk : Cond.instanceMethod y_Jo_walk ∈ jl_T := jl_in (List.mem_of_getElem? (i := 587) (by decide +kernel)) (by decide +kernel)
theorem sw_Jo_walk : Cond.selects r_Jo y_Jo_walk y_Jo_walk ∈ jl_T := jl_in (List.mem_of_getElem? (i := 12) (by decide +kernel)) (by decide +kernel)
theorem cw_Jo_leastThrow : jl_cw m_Jo_leastThrow ∈ jl_T := jl_in (List.mem_of_getElem? (i := 592) (by decide +kernel)) (by decide +kernel)
theorem ww_Jo_leastThrow : Cond.instanceMethod y_Jo_leastThrow ∈ jl_T := jl_in (List.mem_of_getElem? (i := 591) (by decide +kernel)) (by decide +kernel)
theorem sw_Jo_leastThrow : Cond.selects r_Jo y_Jo_leastThrow y_Jo_leastThrow ∈ jl_T := jl_in (List.mem_of_getElem? (i := 13) (by decide +kernel)) (by decide +kernel)
theorem cw_St_stateAfter : jl_cw m_St_stateAfter ∈ jl_T := jl_in (List.mem_of_getElem? (i := 595) (by decide +kernel)) (by decide +kernel)
theorem ww_St_stateAfter : Cond.static y_St_stateAfter ∈ jl_T := jl_in (List.mem_of_getElem? (i := 594) (by decide +kernel)) (by decide +kernel)
theorem cw_Dr_siteOfState : jl_cw m_Dr_siteOfState ∈ jl_T := jl_in (List.mem_of_getElem? (i := 599) (by decide +kernel)) (by decide +kernel)
theorem ww_Dr_siteOfState : Cond.instanceMethod y_Dr_siteOfState ∈ jl_T := jl_in (List.mem_of_getElem? (i := 597) (by decide +kernel)) (by decide +kernel)
theorem sw_Dr_siteOfState : Cond.selects r_Dr y_Dr_siteOfState y_Dr_siteOfState ∈ jl_T := jl_in (List.mem_of_getElem? (i := 598) (by decide +kernel)) (by decide +kernel)
theorem cw_Lw_joinThrow : jl_cw m_Lw_joinThrow ∈ jl_T := jl_in (List.mem_of_getElem? (i := 603) (by decide +kernel)) (by decide +kernel)
theorem ww_Lw_joinThrow : Cond.static y_Lw_joinThrow ∈ jl_T := jl_in (List.mem_of_getElem? (i := 602) (by decide +kernel)) (by decide +kernel)
theorem cw_St_joinThrow : jl_cw m_St_joinThrow ∈ jl_T := jl_in (List.mem_of_getElem? (i := 607) (by decide +kernel)) (by decide +kernel)
theorem ww_St_joinThrow : Cond.instanceMethod y_St_joinThrow ∈ jl_T := jl_in (List.mem_of_getElem? (i := 605) (by decide +kernel)) (by decide +kernel)
theorem sw_St_joinThrow : Cond.selects r_St y_St_joinThrow y_St_joinThrow ∈ jl_T := jl_in (List.mem_of_getElem? (i := 606) (by decide +kernel)) (by decide +kernel)
theorem cw_Jo_throwAt : jl_cw m_Jo_throwAt ∈ jl_T := jl_in (List.mem_of_getElem? (i := 612) (by decide +kernel)) (by decide +kernel)
theorem ww_Jo_throwAt : Cond.instanceMethod y_Jo_throwAt ∈ jl_T := jl_in (List.mem_of_getElem? (i := 610) (by decide +kernel)) (by decide +kernel)
theorem sw_Jo_throwAt : Cond.selects r_Jo y_Jo_throwAt y_Jo_throwAt ∈ jl_T := jl_in (List.mem_of_getElem? (i := 611) (by decide +kernel)) (by decide +kernel)
theorem cw_Lw_joinAt : jl_cw m_Lw_joinAt ∈ jl_T := jl_in (List.mem_of_getElem? (i := 615) (by decide +kernel)) (by decide +kernel)
theorem ww_Lw_joinAt : Cond.static y_Lw_joinAt ∈ jl_T := jl_in (List.mem_of_getElem? (i := 614) (by decide +kernel)) (by decide +kernel)
theorem cw_St_joinAt : jl_cw m_St_joinAt ∈ jl_T := jl_in (List.mem_of_getElem? (i := 619) (by decide +kernel)) (by decide +kernel)
theorem ww_St_joinAt : Cond.instanceMethod y_St_joinAt ∈ jl_T := jl_in (List.mem_of_getElem? (i := 617) (by decide +kernel)) (by decide +kernel)
theorem sw_St_joinAt : Cond.selects r_St y_St_joinAt y_St_joinAt ∈ jl_T := jl_in (List.mem_of_getElem? (i := 618) (by decide +kernel)) (by decide +kernel)
theorem cw_Lw_countValid : jl_cw m_Lw_countValid ∈ jl_T := jl_in (List.mem_of_getElem? (i := 623) (by decide +kernel)) (by decide +kernel)
theorem ww_Lw_countValid : Cond.static y_Lw_countValid ∈ jl_T := jl_in (List.mem_of_getElem? (i := 622) (by decide +kernel)) (by decide +kernel)
theorem cw_St_countValid : jl_cw m_St_countValid ∈ jl_T := jl_in (List.mem_of_getElem? (i := 627) (by decide +kernel)) (by decide +kernel)
theorem ww_St_countValid : Cond.instanceMethod y_St_countValid ∈ jl_T := jl_in (List.mem_of_getElem? (i := 625) (by decide +kernel)) (by decide +kernel)
theorem sw_St_countValid : Cond.selects r_St y_St_countValid y_St_countValid ∈ jl_T := jl_in (List.mem_of_getElem? (i := 626) (by decide +kernel)) (by decide +kernel)
theorem cw_Cn_countDrafts : jl_cw m_Cn_countDrafts ∈ jl_T := jl_in (List.mem_of_getElem? (i := 632) (by decide +kernel)) (by decide +kernel)
theorem ww_Cn_countDrafts : Cond.instanceMethod y_Cn_countDrafts ∈ jl_T := jl_in (List.mem_of_getElem? (i := 630) (by decide +kernel)) (by decide +kernel)
theorem sw_Cn_countDrafts : Cond.selects r_Cn y_Cn_countDrafts y_Cn_countDrafts ∈ jl_T := jl_in (List.mem_of_getElem? (i := 631) (by decide +kernel)) (by decide +kernel)
theorem cw_Cn_throwNext : jl_cw m_Cn_throwNext ∈ jl_T := jl_in (List.mem_of_getElem? (i := 637) (by decide +kernel)) (by decide +kernel)
theorem ww_Cn_throwNext : Cond.instanceMethod y_Cn_throwNext ∈ jl_T := jl_in (List.mem_of_getElem? (i := 636) (by decide +kernel)) (by decide +kernel)
theorem sw_Cn_throwNext : Cond.selects r_Cn y_Cn_throwNext y_Cn_throwNext ∈ jl_T := jl_in (List.mem_of_getElem? (i := 14) (by decide +kernel)) (by decide +kernel)
theorem cw_In_bitCount : jl_cw m_In_bitCount ∈ jl_T := jl_in (List.mem_of_getElem? (i := 640) (by decide +kernel)) (by decide +kernel)
theorem ww_In_bitCount : Cond.static y_In_bitCount ∈ jl_T := jl_in (List.mem_of_getElem? (i := 639) (by decide +kernel)) (by decide +kernel)
theorem cw_Cn_addRows : jl_cw m_Cn_addRows ∈ jl_T := jl_in (List.mem_of_getElem? (i := 648) (by decide +kernel)) (by decide +kernel)
theorem ww_Cn_addRows : Cond.instanceMethod y_Cn_addRows ∈ jl_T := jl_in (List.mem_of_getElem? (i := 647) (by decide +kernel)) (by decide +kernel)
theorem sw_Cn_addRows : Cond.selects r_Cn y_Cn_addRows y_Cn_addRows ∈ jl_T := jl_in (List.mem_of_getElem? (i := 15) (by decide +kernel)) (by decide +kernel)
theorem cw_Lw_cycle : jl_cw m_Lw_cycle ∈ jl_T := jl_in (List.mem_of_getElem? (i := 651) (by decide +kernel)) (by decide +kernel)
theorem ww_Lw_cycle : Cond.static y_Lw_cycle ∈ jl_T := jl_in (List.mem_of_getElem? (i := 650) (by decide +kernel)) (by decide +kernel)
theorem cw_St_cycle : jl_cw m_St_cycle ∈ jl_T := jl_in (List.mem_of_getElem? (i := 655) (by decide +kernel)) (by decide +kernel)
theorem ww_St_cycle : Cond.instanceMethod y_St_cycle ∈ jl_T := jl_in (List.mem_of_getElem? (i := 653) (by decide +kernel)) (by decide +kernel)
theorem sw_St_cycle : Cond.selects r_St y_St_cycle y_St_cycle ∈ jl_T := jl_in (List.mem_of_getElem? (i := 654) (by decide +kernel)) (by decide +kernel)
theorem cw_Cy_find : jl_cw m_Cy_find ∈ jl_T := jl_in (List.mem_of_getElem? (i := 660) (by decide +kernel)) (by decide +kernel)
theorem ww_Cy_find : Cond.instanceMethod y_Cy_find ∈ jl_T := jl_in (List.mem_of_getElem? (i := 658) (by decide +kernel)) (by decide +kernel)
theorem sw_Cy_find : Cond.selects r_Cy y_Cy_find y_Cy_find ∈ jl_T := jl_in (List.mem_of_getElem? (i := 659) (by decide +kernel)) (by decide +kernel)
theorem cw_Cy_search : jl_cw m_Cy_search ∈ jl_T := jl_in (List.mem_of_getElem? (i := 665) (by decide +kernel)) (by decide +kernel)
theorem ww_Cy_search : Cond.instanceMethod y_Cy_search ∈ jl_T := jl_in (List.mem_of_getElem? (i := 664) (by decide +kernel)) (by decide +kernel)
theorem sw_Cy_search : Cond.selects r_Cy y_Cy_search y_Cy_search ∈ jl_T := jl_in (List.mem_of_getElem? (i := 16) (by decide +kernel)) (by decide +kernel)
theorem cw_Dr_isCycle : jl_cw m_Dr_isCycle ∈ jl_T := jl_in (List.mem_of_getElem? (i := 670) (by decide +kernel)) (by decide +kernel)
theorem ww_Dr_isCycle : Cond.instanceMethod y_Dr_isCycle ∈ jl_T := jl_in (List.mem_of_getElem? (i := 668) (by decide +kernel)) (by decide +kernel)
theorem sw_Dr_isCycle : Cond.selects r_Dr y_Dr_isCycle y_Dr_isCycle ∈ jl_T := jl_in (List.mem_of_getElem? (i := 669) (by decide +kernel)) (by decide +kernel)
theorem cw_Lw_show : jl_cw m_Lw_show ∈ jl_T := jl_in (List.mem_of_getElem? (i := 679) (by decide +kernel)) (by decide +kernel)
theorem ww_Lw_show : Cond.static y_Lw_show ∈ jl_T := jl_in (List.mem_of_getElem? (i := 678) (by decide +kernel)) (by decide +kernel)
theorem cw_St_show : jl_cw m_St_show ∈ jl_T := jl_in (List.mem_of_getElem? (i := 683) (by decide +kernel)) (by decide +kernel)
theorem ww_St_show : Cond.instanceMethod y_St_show ∈ jl_T := jl_in (List.mem_of_getElem? (i := 681) (by decide +kernel)) (by decide +kernel)
theorem sw_St_show : Cond.selects r_St y_St_show y_St_show ∈ jl_T := jl_in (List.mem_of_getElem? (i := 682) (by decide +kernel)) (by decide +kernel)
theorem cw_Sg_open : jl_cw m_Sg_open ∈ jl_T := jl_in (List.mem_of_getElem? (i := 687) (by decide +kernel)) (by decide +kernel)
theorem ww_Sg_open : Cond.instanceMethod y_Sg_open ∈ jl_T := jl_in (List.mem_of_getElem? (i := 685) (by decide +kernel)) (by decide +kernel)
theorem sw_Sg_open : Cond.selects r_Sg y_Sg_open y_Sg_open ∈ jl_T := jl_in (List.mem_of_getElem? (i := 686) (by decide +kernel)) (by decide +kernel)
theorem cw_Sg_numberBalls : jl_cw m_Sg_numberBalls ∈ jl_T := jl_in (List.mem_of_getElem? (i := 692) (by decide +kernel)) (by decide +kernel)
theorem ww_Sg_numberBalls : Cond.instanceMethod y_Sg_numberBalls ∈ jl_T := jl_in (List.mem_of_getElem? (i := 691) (by decide +kernel)) (by decide +kernel)
theorem sw_Sg_numberBalls : Cond.selects r_Sg y_Sg_numberBalls y_Sg_numberBalls ∈ jl_T := jl_in (List.mem_of_getElem? (i := 17) (by decide +kernel)) (by decide +kernel)
theorem cw_Sg_numberBallsLanding : jl_cw m_Sg_numberBallsLanding ∈ jl_T := jl_in (List.mem_of_getElem? (i := 696) (by decide +kernel)) (by decide +kernel)
theorem ww_Sg_numberBallsLanding : Cond.instanceMethod y_Sg_numberBallsLanding ∈ jl_T := jl_in (List.mem_of_getElem? (i := 695) (by decide +kernel)) (by decide +kernel)
theorem sw_Sg_numberBallsLanding : Cond.selects r_Sg y_Sg_numberBallsLanding y_Sg_numberBallsLanding ∈ jl_T := jl_in (List.mem_of_getElem? (i := 18) (by decide +kernel)) (by decide +kernel)
theorem cw_Dr_siteThrowing : jl_cw m_Dr_siteThrowing ∈ jl_T := jl_in (List.mem_of_getElem? (i := 700) (by decide +kernel)) (by decide +kernel)
theorem ww_Dr_siteThrowing : Cond.instanceMethod y_Dr_siteThrowing ∈ jl_T := jl_in (List.mem_of_getElem? (i := 698) (by decide +kernel)) (by decide +kernel)
theorem sw_Dr_siteThrowing : Cond.selects r_Dr y_Dr_siteThrowing y_Dr_siteThrowing ∈ jl_T := jl_in (List.mem_of_getElem? (i := 699) (by decide +kernel)) (by decide +kernel)
theorem cw_Sg_numberBallsOf : jl_cw m_Sg_numberBallsOf ∈ jl_T := jl_in (List.mem_of_getElem? (i := 706) (by decide +kernel)) (by decide +kernel)
theorem ww_Sg_numberBallsOf : Cond.instanceMethod y_Sg_numberBallsOf ∈ jl_T := jl_in (List.mem_of_getElem? (i := 705) (by decide +kernel)) (by decide +kernel)
theorem sw_Sg_numberBallsOf : Cond.selects r_Sg y_Sg_numberBallsOf y_Sg_numberBallsOf ∈ jl_T := jl_in (List.mem_of_getElem? (i := 19) (by decide +kernel)) (by decide +kernel)
theorem cw_Lw_run : jl_cw m_Lw_run ∈ jl_T := jl_in (List.mem_of_getElem? (i := 711) (by decide +kernel)) (by decide +kernel)
theorem ww_Lw_run : Cond.static y_Lw_run ∈ jl_T := jl_in (List.mem_of_getElem? (i := 710) (by decide +kernel)) (by decide +kernel)
theorem cw_St_run : jl_cw m_St_run ∈ jl_T := jl_in (List.mem_of_getElem? (i := 715) (by decide +kernel)) (by decide +kernel)
theorem ww_St_run : Cond.instanceMethod y_St_run ∈ jl_T := jl_in (List.mem_of_getElem? (i := 713) (by decide +kernel)) (by decide +kernel)
theorem sw_St_run : Cond.selects r_St y_St_run y_St_run ∈ jl_T := jl_in (List.mem_of_getElem? (i := 714) (by decide +kernel)) (by decide +kernel)
theorem cw_St_requireShown : jl_cw m_St_requireShown ∈ jl_T := jl_in (List.mem_of_getElem? (i := 720) (by decide +kernel)) (by decide +kernel)
theorem ww_St_requireShown : Cond.instanceMethod y_St_requireShown ∈ jl_T := jl_in (List.mem_of_getElem? (i := 719) (by decide +kernel)) (by decide +kernel)
theorem sw_St_requireShown : Cond.selects r_St y_St_requireShown y_St_requireShown ∈ jl_T := jl_in (List.mem_of_getElem? (i := 20) (by decide +kernel)) (by decide +kernel)
theorem cw_Sg_goOn : jl_cw m_Sg_goOn ∈ jl_T := jl_in (List.mem_of_getElem? (i := 725) (by decide +kernel)) (by decide +kernel)
theorem ww_Sg_goOn : Cond.instanceMethod y_Sg_goOn ∈ jl_T := jl_in (List.mem_of_getElem? (i := 723) (by decide +kernel)) (by decide +kernel)
theorem sw_Sg_goOn : Cond.selects r_Sg y_Sg_goOn y_Sg_goOn ∈ jl_T := jl_in (List.mem_of_getElem? (i := 724) (by decide +kernel)) (by decide +kernel)
theorem cw_Sg_throwFrom : jl_cw m_Sg_throwFrom ∈ jl_T := jl_in (List.mem_of_getElem? (i := 729) (by decide +kernel)) (by decide +kernel)
theorem ww_Sg_throwFrom : Cond.instanceMethod y_Sg_throwFrom ∈ jl_T := jl_in (List.mem_of_getElem? (i := 728) (by decide +kernel)) (by decide +kernel)
theorem sw_Sg_throwFrom : Cond.selects r_Sg y_Sg_throwFrom y_Sg_throwFrom ∈ jl_T := jl_in (List.mem_of_getElem? (i := 21) (by decide +kernel)) (by decide +kernel)
theorem cw_Sg_nextThrow : jl_cw m_Sg_nextThrow ∈ jl_T := jl_in (List.mem_of_getElem? (i := 733) (by decide +kernel)) (by decide +kernel)
theorem ww_Sg_nextThrow : Cond.instanceMethod y_Sg_nextThrow ∈ jl_T := jl_in (List.mem_of_getElem? (i := 732) (by decide +kernel)) (by decide +kernel)
theorem sw_Sg_nextThrow : Cond.selects r_Sg y_Sg_nextThrow y_Sg_nextThrow ∈ jl_T := jl_in (List.mem_of_getElem? (i := 22) (by decide +kernel)) (by decide +kernel)
theorem cw_Lw_ball : jl_cw m_Lw_ball ∈ jl_T := jl_in (List.mem_of_getElem? (i := 736) (by decide +kernel)) (by decide +kernel)
theorem ww_Lw_ball : Cond.static y_Lw_ball ∈ jl_T := jl_in (List.mem_of_getElem? (i := 735) (by decide +kernel)) (by decide +kernel)
theorem cw_St_ball : jl_cw m_St_ball ∈ jl_T := jl_in (List.mem_of_getElem? (i := 740) (by decide +kernel)) (by decide +kernel)
theorem ww_St_ball : Cond.instanceMethod y_St_ball ∈ jl_T := jl_in (List.mem_of_getElem? (i := 738) (by decide +kernel)) (by decide +kernel)
theorem sw_St_ball : Cond.selects r_St y_St_ball y_St_ball ∈ jl_T := jl_in (List.mem_of_getElem? (i := 739) (by decide +kernel)) (by decide +kernel)
theorem cw_St_requireBall : jl_cw m_St_requireBall ∈ jl_T := jl_in (List.mem_of_getElem? (i := 744) (by decide +kernel)) (by decide +kernel)
theorem ww_St_requireBall : Cond.instanceMethod y_St_requireBall ∈ jl_T := jl_in (List.mem_of_getElem? (i := 743) (by decide +kernel)) (by decide +kernel)
theorem sw_St_requireBall : Cond.selects r_St y_St_requireBall y_St_requireBall ∈ jl_T := jl_in (List.mem_of_getElem? (i := 23) (by decide +kernel)) (by decide +kernel)
theorem cw_Sg_beatsUntilLanding : jl_cw m_Sg_beatsUntilLanding ∈ jl_T := jl_in (List.mem_of_getElem? (i := 749) (by decide +kernel)) (by decide +kernel)
theorem ww_Sg_beatsUntilLanding : Cond.instanceMethod y_Sg_beatsUntilLanding ∈ jl_T := jl_in (List.mem_of_getElem? (i := 747) (by decide +kernel)) (by decide +kernel)
theorem sw_Sg_beatsUntilLanding : Cond.selects r_Sg y_Sg_beatsUntilLanding y_Sg_beatsUntilLanding ∈ jl_T := jl_in (List.mem_of_getElem? (i := 748) (by decide +kernel)) (by decide +kernel)
theorem cw_Lw_hand : jl_cw m_Lw_hand ∈ jl_T := jl_in (List.mem_of_getElem? (i := 752) (by decide +kernel)) (by decide +kernel)
theorem ww_Lw_hand : Cond.static y_Lw_hand ∈ jl_T := jl_in (List.mem_of_getElem? (i := 751) (by decide +kernel)) (by decide +kernel)
theorem cw_St_hand : jl_cw m_St_hand ∈ jl_T := jl_in (List.mem_of_getElem? (i := 756) (by decide +kernel)) (by decide +kernel)
theorem ww_St_hand : Cond.instanceMethod y_St_hand ∈ jl_T := jl_in (List.mem_of_getElem? (i := 754) (by decide +kernel)) (by decide +kernel)
theorem sw_St_hand : Cond.selects r_St y_St_hand y_St_hand ∈ jl_T := jl_in (List.mem_of_getElem? (i := 755) (by decide +kernel)) (by decide +kernel)
theorem cw_Sg_landingHand : jl_cw m_Sg_landingHand ∈ jl_T := jl_in (List.mem_of_getElem? (i := 760) (by decide +kernel)) (by decide +kernel)
theorem ww_Sg_landingHand : Cond.instanceMethod y_Sg_landingHand ∈ jl_T := jl_in (List.mem_of_getElem? (i := 758) (by decide +kernel)) (by decide +kernel)
theorem sw_Sg_landingHand : Cond.selects r_Sg y_Sg_landingHand y_Sg_landingHand ∈ jl_T := jl_in (List.mem_of_getElem? (i := 759) (by decide +kernel)) (by decide +kernel)
theorem cw_Lw_floor : jl_cw m_Lw_floor ∈ jl_T := jl_in (List.mem_of_getElem? (i := 763) (by decide +kernel)) (by decide +kernel)
theorem ww_Lw_floor : Cond.static y_Lw_floor ∈ jl_T := jl_in (List.mem_of_getElem? (i := 762) (by decide +kernel)) (by decide +kernel)
theorem cw_St_floor : jl_cw m_St_floor ∈ jl_T := jl_in (List.mem_of_getElem? (i := 767) (by decide +kernel)) (by decide +kernel)
theorem ww_St_floor : Cond.instanceMethod y_St_floor ∈ jl_T := jl_in (List.mem_of_getElem? (i := 765) (by decide +kernel)) (by decide +kernel)
theorem sw_St_floor : Cond.selects r_St y_St_floor y_St_floor ∈ jl_T := jl_in (List.mem_of_getElem? (i := 766) (by decide +kernel)) (by decide +kernel)
theorem cw_Sg_throwsMade : jl_cw m_Sg_throwsMade ∈ jl_T := jl_in (List.mem_of_getElem? (i := 772) (by decide +kernel)) (by decide +kernel)
theorem ww_Sg_throwsMade : Cond.instanceMethod y_Sg_throwsMade ∈ jl_T := jl_in (List.mem_of_getElem? (i := 770) (by decide +kernel)) (by decide +kernel)
theorem sw_Sg_throwsMade : Cond.selects r_Sg y_Sg_throwsMade y_Sg_throwsMade ∈ jl_T := jl_in (List.mem_of_getElem? (i := 771) (by decide +kernel)) (by decide +kernel)
theorem cw_Md_init : jl_cw m_Md_init ∈ jl_T := jl_in (List.mem_of_getElem? (i := 777) (by decide +kernel)) (by decide +kernel)
theorem ww_Md_init : Cond.instanceMethod y_Md_init ∈ jl_T := jl_in (List.mem_of_getElem? (i := 776) (by decide +kernel)) (by decide +kernel)
theorem cw_Md_fresh : jl_cw m_Md_fresh ∈ jl_T := jl_in (List.mem_of_getElem? (i := 782) (by decide +kernel)) (by decide +kernel)
theorem ww_Md_fresh : Cond.instanceMethod y_Md_fresh ∈ jl_T := jl_in (List.mem_of_getElem? (i := 781) (by decide +kernel)) (by decide +kernel)
theorem sw_Md_fresh : Cond.selects r_Md y_Md_fresh y_Md_fresh ∈ jl_T := jl_in (List.mem_of_getElem? (i := 24) (by decide +kernel)) (by decide +kernel)
theorem cw_Md_thrown : jl_cw m_Md_thrown ∈ jl_T := jl_in (List.mem_of_getElem? (i := 851) (by decide +kernel)) (by decide +kernel)
theorem ww_Md_thrown : Cond.instanceMethod y_Md_thrown ∈ jl_T := jl_in (List.mem_of_getElem? (i := 849) (by decide +kernel)) (by decide +kernel)
theorem sw_Md_thrown : Cond.selects r_Md y_Md_thrown y_Md_thrown ∈ jl_T := jl_in (List.mem_of_getElem? (i := 850) (by decide +kernel)) (by decide +kernel)
theorem cw_Md_begin : jl_cw m_Md_begin ∈ jl_T := jl_in (List.mem_of_getElem? (i := 855) (by decide +kernel)) (by decide +kernel)
theorem ww_Md_begin : Cond.instanceMethod y_Md_begin ∈ jl_T := jl_in (List.mem_of_getElem? (i := 853) (by decide +kernel)) (by decide +kernel)
theorem sw_Md_begin : Cond.selects r_Md y_Md_begin y_Md_begin ∈ jl_T := jl_in (List.mem_of_getElem? (i := 854) (by decide +kernel)) (by decide +kernel)
theorem cw_Md_within : jl_cw m_Md_within ∈ jl_T := jl_in (List.mem_of_getElem? (i := 858) (by decide +kernel)) (by decide +kernel)
theorem ww_Md_within : Cond.static y_Md_within ∈ jl_T := jl_in (List.mem_of_getElem? (i := 857) (by decide +kernel)) (by decide +kernel)
theorem cw_Md_fail : jl_cw m_Md_fail ∈ jl_T := jl_in (List.mem_of_getElem? (i := 862) (by decide +kernel)) (by decide +kernel)
theorem ww_Md_fail : Cond.instanceMethod y_Md_fail ∈ jl_T := jl_in (List.mem_of_getElem? (i := 861) (by decide +kernel)) (by decide +kernel)
theorem sw_Md_fail : Cond.selects r_Md y_Md_fail y_Md_fail ∈ jl_T := jl_in (List.mem_of_getElem? (i := 25) (by decide +kernel)) (by decide +kernel)
theorem cw_Md_put : jl_cw m_Md_put ∈ jl_T := jl_in (List.mem_of_getElem? (i := 866) (by decide +kernel)) (by decide +kernel)
theorem ww_Md_put : Cond.instanceMethod y_Md_put ∈ jl_T := jl_in (List.mem_of_getElem? (i := 864) (by decide +kernel)) (by decide +kernel)
theorem sw_Md_put : Cond.selects r_Md y_Md_put y_Md_put ∈ jl_T := jl_in (List.mem_of_getElem? (i := 865) (by decide +kernel)) (by decide +kernel)
theorem cw_Md_noSite : jl_cw m_Md_noSite ∈ jl_T := jl_in (List.mem_of_getElem? (i := 870) (by decide +kernel)) (by decide +kernel)
theorem ww_Md_noSite : Cond.instanceMethod y_Md_noSite ∈ jl_T := jl_in (List.mem_of_getElem? (i := 869) (by decide +kernel)) (by decide +kernel)
theorem sw_Md_noSite : Cond.selects r_Md y_Md_noSite y_Md_noSite ∈ jl_T := jl_in (List.mem_of_getElem? (i := 26) (by decide +kernel)) (by decide +kernel)
theorem cw_Md_tall : jl_cw m_Md_tall ∈ jl_T := jl_in (List.mem_of_getElem? (i := 874) (by decide +kernel)) (by decide +kernel)
theorem ww_Md_tall : Cond.instanceMethod y_Md_tall ∈ jl_T := jl_in (List.mem_of_getElem? (i := 873) (by decide +kernel)) (by decide +kernel)
theorem sw_Md_tall : Cond.selects r_Md y_Md_tall y_Md_tall ∈ jl_T := jl_in (List.mem_of_getElem? (i := 27) (by decide +kernel)) (by decide +kernel)
theorem cw_Md_add : jl_cw m_Md_add ∈ jl_T := jl_in (List.mem_of_getElem? (i := 878) (by decide +kernel)) (by decide +kernel)
theorem ww_Md_add : Cond.instanceMethod y_Md_add ∈ jl_T := jl_in (List.mem_of_getElem? (i := 876) (by decide +kernel)) (by decide +kernel)
theorem sw_Md_add : Cond.selects r_Md y_Md_add y_Md_add ∈ jl_T := jl_in (List.mem_of_getElem? (i := 877) (by decide +kernel)) (by decide +kernel)
theorem cw_Md_valid : jl_cw m_Md_valid ∈ jl_T := jl_in (List.mem_of_getElem? (i := 882) (by decide +kernel)) (by decide +kernel)
theorem ww_Md_valid : Cond.instanceMethod y_Md_valid ∈ jl_T := jl_in (List.mem_of_getElem? (i := 880) (by decide +kernel)) (by decide +kernel)
theorem sw_Md_valid : Cond.selects r_Md y_Md_valid y_Md_valid ∈ jl_T := jl_in (List.mem_of_getElem? (i := 881) (by decide +kernel)) (by decide +kernel)
theorem cw_Md_isValid : jl_cw m_Md_isValid ∈ jl_T := jl_in (List.mem_of_getElem? (i := 886) (by decide +kernel)) (by decide +kernel)
theorem ww_Md_isValid : Cond.instanceMethod y_Md_isValid ∈ jl_T := jl_in (List.mem_of_getElem? (i := 885) (by decide +kernel)) (by decide +kernel)
theorem sw_Md_isValid : Cond.selects r_Md y_Md_isValid y_Md_isValid ∈ jl_T := jl_in (List.mem_of_getElem? (i := 28) (by decide +kernel)) (by decide +kernel)
theorem cw_Md_landing : jl_cw m_Md_landing ∈ jl_T := jl_in (List.mem_of_getElem? (i := 890) (by decide +kernel)) (by decide +kernel)
theorem ww_Md_landing : Cond.instanceMethod y_Md_landing ∈ jl_T := jl_in (List.mem_of_getElem? (i := 889) (by decide +kernel)) (by decide +kernel)
theorem sw_Md_landing : Cond.selects r_Md y_Md_landing y_Md_landing ∈ jl_T := jl_in (List.mem_of_getElem? (i := 29) (by decide +kernel)) (by decide +kernel)
theorem cw_Md_target : jl_cw m_Md_target ∈ jl_T := jl_in (List.mem_of_getElem? (i := 894) (by decide +kernel)) (by decide +kernel)
theorem ww_Md_target : Cond.instanceMethod y_Md_target ∈ jl_T := jl_in (List.mem_of_getElem? (i := 893) (by decide +kernel)) (by decide +kernel)
theorem sw_Md_target : Cond.selects r_Md y_Md_target y_Md_target ∈ jl_T := jl_in (List.mem_of_getElem? (i := 30) (by decide +kernel)) (by decide +kernel)
theorem cw_Md_throwsAt : jl_cw m_Md_throwsAt ∈ jl_T := jl_in (List.mem_of_getElem? (i := 898) (by decide +kernel)) (by decide +kernel)
theorem ww_Md_throwsAt : Cond.instanceMethod y_Md_throwsAt ∈ jl_T := jl_in (List.mem_of_getElem? (i := 897) (by decide +kernel)) (by decide +kernel)
theorem sw_Md_throwsAt : Cond.selects r_Md y_Md_throwsAt y_Md_throwsAt ∈ jl_T := jl_in (List.mem_of_getElem? (i := 31) (by decide +kernel)) (by decide +kernel)
theorem cw_Md_clash : jl_cw m_Md_clash ∈ jl_T := jl_in (List.mem_of_getElem? (i := 902) (by decide +kernel)) (by decide +kernel)
theorem ww_Md_clash : Cond.instanceMethod y_Md_clash ∈ jl_T := jl_in (List.mem_of_getElem? (i := 900) (by decide +kernel)) (by decide +kernel)
theorem sw_Md_clash : Cond.selects r_Md y_Md_clash y_Md_clash ∈ jl_T := jl_in (List.mem_of_getElem? (i := 901) (by decide +kernel)) (by decide +kernel)
theorem cw_Md_balls : jl_cw m_Md_balls ∈ jl_T := jl_in (List.mem_of_getElem? (i := 906) (by decide +kernel)) (by decide +kernel)
theorem ww_Md_balls : Cond.instanceMethod y_Md_balls ∈ jl_T := jl_in (List.mem_of_getElem? (i := 904) (by decide +kernel)) (by decide +kernel)
theorem sw_Md_balls : Cond.selects r_Md y_Md_balls y_Md_balls ∈ jl_T := jl_in (List.mem_of_getElem? (i := 905) (by decide +kernel)) (by decide +kernel)
theorem cw_Md_ballsOf : jl_cw m_Md_ballsOf ∈ jl_T := jl_in (List.mem_of_getElem? (i := 910) (by decide +kernel)) (by decide +kernel)
theorem ww_Md_ballsOf : Cond.instanceMethod y_Md_ballsOf ∈ jl_T := jl_in (List.mem_of_getElem? (i := 909) (by decide +kernel)) (by decide +kernel)
theorem sw_Md_ballsOf : Cond.selects r_Md y_Md_ballsOf y_Md_ballsOf ∈ jl_T := jl_in (List.mem_of_getElem? (i := 32) (by decide +kernel)) (by decide +kernel)
theorem cw_Md_state : jl_cw m_Md_state ∈ jl_T := jl_in (List.mem_of_getElem? (i := 914) (by decide +kernel)) (by decide +kernel)
theorem ww_Md_state : Cond.instanceMethod y_Md_state ∈ jl_T := jl_in (List.mem_of_getElem? (i := 912) (by decide +kernel)) (by decide +kernel)
theorem sw_Md_state : Cond.selects r_Md y_Md_state y_Md_state ∈ jl_T := jl_in (List.mem_of_getElem? (i := 913) (by decide +kernel)) (by decide +kernel)
theorem cw_Md_stateOf : jl_cw m_Md_stateOf ∈ jl_T := jl_in (List.mem_of_getElem? (i := 918) (by decide +kernel)) (by decide +kernel)
theorem ww_Md_stateOf : Cond.instanceMethod y_Md_stateOf ∈ jl_T := jl_in (List.mem_of_getElem? (i := 917) (by decide +kernel)) (by decide +kernel)
theorem sw_Md_stateOf : Cond.selects r_Md y_Md_stateOf y_Md_stateOf ∈ jl_T := jl_in (List.mem_of_getElem? (i := 33) (by decide +kernel)) (by decide +kernel)
theorem cw_Md_swap : jl_cw m_Md_swap ∈ jl_T := jl_in (List.mem_of_getElem? (i := 922) (by decide +kernel)) (by decide +kernel)
theorem ww_Md_swap : Cond.instanceMethod y_Md_swap ∈ jl_T := jl_in (List.mem_of_getElem? (i := 920) (by decide +kernel)) (by decide +kernel)
theorem sw_Md_swap : Cond.selects r_Md y_Md_swap y_Md_swap ∈ jl_T := jl_in (List.mem_of_getElem? (i := 921) (by decide +kernel)) (by decide +kernel)
theorem cw_Md_canonical : jl_cw m_Md_canonical ∈ jl_T := jl_in (List.mem_of_getElem? (i := 926) (by decide +kernel)) (by decide +kernel)
theorem ww_Md_canonical : Cond.instanceMethod y_Md_canonical ∈ jl_T := jl_in (List.mem_of_getElem? (i := 924) (by decide +kernel)) (by decide +kernel)
theorem sw_Md_canonical : Cond.selects r_Md y_Md_canonical y_Md_canonical ∈ jl_T := jl_in (List.mem_of_getElem? (i := 925) (by decide +kernel)) (by decide +kernel)
theorem cw_Md_lower : jl_cw m_Md_lower ∈ jl_T := jl_in (List.mem_of_getElem? (i := 930) (by decide +kernel)) (by decide +kernel)
theorem ww_Md_lower : Cond.instanceMethod y_Md_lower ∈ jl_T := jl_in (List.mem_of_getElem? (i := 929) (by decide +kernel)) (by decide +kernel)
theorem sw_Md_lower : Cond.selects r_Md y_Md_lower y_Md_lower ∈ jl_T := jl_in (List.mem_of_getElem? (i := 34) (by decide +kernel)) (by decide +kernel)
theorem cw_Md_height : jl_cw m_Md_height ∈ jl_T := jl_in (List.mem_of_getElem? (i := 934) (by decide +kernel)) (by decide +kernel)
theorem ww_Md_height : Cond.instanceMethod y_Md_height ∈ jl_T := jl_in (List.mem_of_getElem? (i := 932) (by decide +kernel)) (by decide +kernel)
theorem sw_Md_height : Cond.selects r_Md y_Md_height y_Md_height ∈ jl_T := jl_in (List.mem_of_getElem? (i := 933) (by decide +kernel)) (by decide +kernel)
theorem cw_Md_save : jl_cw m_Md_save ∈ jl_T := jl_in (List.mem_of_getElem? (i := 938) (by decide +kernel)) (by decide +kernel)
theorem ww_Md_save : Cond.instanceMethod y_Md_save ∈ jl_T := jl_in (List.mem_of_getElem? (i := 936) (by decide +kernel)) (by decide +kernel)
theorem sw_Md_save : Cond.selects r_Md y_Md_save y_Md_save ∈ jl_T := jl_in (List.mem_of_getElem? (i := 937) (by decide +kernel)) (by decide +kernel)
theorem cw_Md_copy : jl_cw m_Md_copy ∈ jl_T := jl_in (List.mem_of_getElem? (i := 942) (by decide +kernel)) (by decide +kernel)
theorem ww_Md_copy : Cond.instanceMethod y_Md_copy ∈ jl_T := jl_in (List.mem_of_getElem? (i := 941) (by decide +kernel)) (by decide +kernel)
theorem sw_Md_copy : Cond.selects r_Md y_Md_copy y_Md_copy ∈ jl_T := jl_in (List.mem_of_getElem? (i := 35) (by decide +kernel)) (by decide +kernel)
theorem cw_Md_load : jl_cw m_Md_load ∈ jl_T := jl_in (List.mem_of_getElem? (i := 946) (by decide +kernel)) (by decide +kernel)
theorem ww_Md_load : Cond.instanceMethod y_Md_load ∈ jl_T := jl_in (List.mem_of_getElem? (i := 944) (by decide +kernel)) (by decide +kernel)
theorem sw_Md_load : Cond.selects r_Md y_Md_load y_Md_load ∈ jl_T := jl_in (List.mem_of_getElem? (i := 945) (by decide +kernel)) (by decide +kernel)
theorem cw_Md_join : jl_cw m_Md_join ∈ jl_T := jl_in (List.mem_of_getElem? (i := 950) (by decide +kernel)) (by decide +kernel)
theorem ww_Md_join : Cond.instanceMethod y_Md_join ∈ jl_T := jl_in (List.mem_of_getElem? (i := 948) (by decide +kernel)) (by decide +kernel)
theorem sw_Md_join : Cond.selects r_Md y_Md_join y_Md_join ∈ jl_T := jl_in (List.mem_of_getElem? (i := 949) (by decide +kernel)) (by decide +kernel)
theorem cw_Md_measure : jl_cw m_Md_measure ∈ jl_T := jl_in (List.mem_of_getElem? (i := 954) (by decide +kernel)) (by decide +kernel)
theorem ww_Md_measure : Cond.instanceMethod y_Md_measure ∈ jl_T := jl_in (List.mem_of_getElem? (i := 953) (by decide +kernel)) (by decide +kernel)
theorem sw_Md_measure : Cond.selects r_Md y_Md_measure y_Md_measure ∈ jl_T := jl_in (List.mem_of_getElem? (i := 36) (by decide +kernel)) (by decide +kernel)
theorem cw_Md_behind : jl_cw m_Md_behind ∈ jl_T := jl_in (List.mem_of_getElem? (i := 957) (by decide +kernel)) (by decide +kernel)
theorem ww_Md_behind : Cond.static y_Md_behind ∈ jl_T := jl_in (List.mem_of_getElem? (i := 956) (by decide +kernel)) (by decide +kernel)
theorem cw_Md_joinThrow : jl_cw m_Md_joinThrow ∈ jl_T := jl_in (List.mem_of_getElem? (i := 961) (by decide +kernel)) (by decide +kernel)
theorem ww_Md_joinThrow : Cond.instanceMethod y_Md_joinThrow ∈ jl_T := jl_in (List.mem_of_getElem? (i := 959) (by decide +kernel)) (by decide +kernel)
theorem sw_Md_joinThrow : Cond.selects r_Md y_Md_joinThrow y_Md_joinThrow ∈ jl_T := jl_in (List.mem_of_getElem? (i := 960) (by decide +kernel)) (by decide +kernel)
theorem cw_Md_joinAt : jl_cw m_Md_joinAt ∈ jl_T := jl_in (List.mem_of_getElem? (i := 965) (by decide +kernel)) (by decide +kernel)
theorem ww_Md_joinAt : Cond.instanceMethod y_Md_joinAt ∈ jl_T := jl_in (List.mem_of_getElem? (i := 963) (by decide +kernel)) (by decide +kernel)
theorem sw_Md_joinAt : Cond.selects r_Md y_Md_joinAt y_Md_joinAt ∈ jl_T := jl_in (List.mem_of_getElem? (i := 964) (by decide +kernel)) (by decide +kernel)
theorem cw_Md_countValid : jl_cw m_Md_countValid ∈ jl_T := jl_in (List.mem_of_getElem? (i := 969) (by decide +kernel)) (by decide +kernel)
theorem ww_Md_countValid : Cond.instanceMethod y_Md_countValid ∈ jl_T := jl_in (List.mem_of_getElem? (i := 967) (by decide +kernel)) (by decide +kernel)
theorem sw_Md_countValid : Cond.selects r_Md y_Md_countValid y_Md_countValid ∈ jl_T := jl_in (List.mem_of_getElem? (i := 968) (by decide +kernel)) (by decide +kernel)
theorem cw_Md_cycle : jl_cw m_Md_cycle ∈ jl_T := jl_in (List.mem_of_getElem? (i := 973) (by decide +kernel)) (by decide +kernel)
theorem ww_Md_cycle : Cond.instanceMethod y_Md_cycle ∈ jl_T := jl_in (List.mem_of_getElem? (i := 971) (by decide +kernel)) (by decide +kernel)
theorem sw_Md_cycle : Cond.selects r_Md y_Md_cycle y_Md_cycle ∈ jl_T := jl_in (List.mem_of_getElem? (i := 972) (by decide +kernel)) (by decide +kernel)
theorem cw_Md_rowIsCycle : jl_cw m_Md_rowIsCycle ∈ jl_T := jl_in (List.mem_of_getElem? (i := 977) (by decide +kernel)) (by decide +kernel)
theorem ww_Md_rowIsCycle : Cond.instanceMethod y_Md_rowIsCycle ∈ jl_T := jl_in (List.mem_of_getElem? (i := 976) (by decide +kernel)) (by decide +kernel)
theorem sw_Md_rowIsCycle : Cond.selects r_Md y_Md_rowIsCycle y_Md_rowIsCycle ∈ jl_T := jl_in (List.mem_of_getElem? (i := 37) (by decide +kernel)) (by decide +kernel)
theorem cw_Md_rowState : jl_cw m_Md_rowState ∈ jl_T := jl_in (List.mem_of_getElem? (i := 981) (by decide +kernel)) (by decide +kernel)
theorem ww_Md_rowState : Cond.instanceMethod y_Md_rowState ∈ jl_T := jl_in (List.mem_of_getElem? (i := 980) (by decide +kernel)) (by decide +kernel)
theorem sw_Md_rowState : Cond.selects r_Md y_Md_rowState y_Md_rowState ∈ jl_T := jl_in (List.mem_of_getElem? (i := 38) (by decide +kernel)) (by decide +kernel)
theorem cw_Md_show : jl_cw m_Md_show ∈ jl_T := jl_in (List.mem_of_getElem? (i := 985) (by decide +kernel)) (by decide +kernel)
theorem ww_Md_show : Cond.instanceMethod y_Md_show ∈ jl_T := jl_in (List.mem_of_getElem? (i := 983) (by decide +kernel)) (by decide +kernel)
theorem sw_Md_show : Cond.selects r_Md y_Md_show y_Md_show ∈ jl_T := jl_in (List.mem_of_getElem? (i := 984) (by decide +kernel)) (by decide +kernel)
theorem cw_Md_enter : jl_cw m_Md_enter ∈ jl_T := jl_in (List.mem_of_getElem? (i := 989) (by decide +kernel)) (by decide +kernel)
theorem ww_Md_enter : Cond.instanceMethod y_Md_enter ∈ jl_T := jl_in (List.mem_of_getElem? (i := 988) (by decide +kernel)) (by decide +kernel)
theorem sw_Md_enter : Cond.selects r_Md y_Md_enter y_Md_enter ∈ jl_T := jl_in (List.mem_of_getElem? (i := 39) (by decide +kernel)) (by decide +kernel)
theorem cw_Md_comes : jl_cw m_Md_comes ∈ jl_T := jl_in (List.mem_of_getElem? (i := 993) (by decide +kernel)) (by decide +kernel)
theorem ww_Md_comes : Cond.instanceMethod y_Md_comes ∈ jl_T := jl_in (List.mem_of_getElem? (i := 992) (by decide +kernel)) (by decide +kernel)
theorem sw_Md_comes : Cond.selects r_Md y_Md_comes y_Md_comes ∈ jl_T := jl_in (List.mem_of_getElem? (i := 40) (by decide +kernel)) (by decide +kernel)
theorem cw_Md_run : jl_cw m_Md_run ∈ jl_T := jl_in (List.mem_of_getElem? (i := 997) (by decide +kernel)) (by decide +kernel)
theorem ww_Md_run : Cond.instanceMethod y_Md_run ∈ jl_T := jl_in (List.mem_of_getElem? (i := 995) (by decide +kernel)) (by decide +kernel)
theorem sw_Md_run : Cond.selects r_Md y_Md_run y_Md_run ∈ jl_T := jl_in (List.mem_of_getElem? (i := 996) (by decide +kernel)) (by decide +kernel)
theorem cw_Md_beat : jl_cw m_Md_beat ∈ jl_T := jl_in (List.mem_of_getElem? (i := 1001) (by decide +kernel)) (by decide +kernel)
theorem ww_Md_beat : Cond.instanceMethod y_Md_beat ∈ jl_T := jl_in (List.mem_of_getElem? (i := 1000) (by decide +kernel)) (by decide +kernel)
theorem sw_Md_beat : Cond.selects r_Md y_Md_beat y_Md_beat ∈ jl_T := jl_in (List.mem_of_getElem? (i := 41) (by decide +kernel)) (by decide +kernel)
theorem cw_Md_fly : jl_cw m_Md_fly ∈ jl_T := jl_in (List.mem_of_getElem? (i := 1005) (by decide +kernel)) (by decide +kernel)
theorem ww_Md_fly : Cond.instanceMethod y_Md_fly ∈ jl_T := jl_in (List.mem_of_getElem? (i := 1004) (by decide +kernel)) (by decide +kernel)
theorem sw_Md_fly : Cond.selects r_Md y_Md_fly y_Md_fly ∈ jl_T := jl_in (List.mem_of_getElem? (i := 42) (by decide +kernel)) (by decide +kernel)
theorem cw_Md_handOf : jl_cw m_Md_handOf ∈ jl_T := jl_in (List.mem_of_getElem? (i := 1009) (by decide +kernel)) (by decide +kernel)
theorem ww_Md_handOf : Cond.instanceMethod y_Md_handOf ∈ jl_T := jl_in (List.mem_of_getElem? (i := 1008) (by decide +kernel)) (by decide +kernel)
theorem sw_Md_handOf : Cond.selects r_Md y_Md_handOf y_Md_handOf ∈ jl_T := jl_in (List.mem_of_getElem? (i := 43) (by decide +kernel)) (by decide +kernel)
theorem cw_Md_ball : jl_cw m_Md_ball ∈ jl_T := jl_in (List.mem_of_getElem? (i := 1013) (by decide +kernel)) (by decide +kernel)
theorem ww_Md_ball : Cond.instanceMethod y_Md_ball ∈ jl_T := jl_in (List.mem_of_getElem? (i := 1011) (by decide +kernel)) (by decide +kernel)
theorem sw_Md_ball : Cond.selects r_Md y_Md_ball y_Md_ball ∈ jl_T := jl_in (List.mem_of_getElem? (i := 1012) (by decide +kernel)) (by decide +kernel)
theorem cw_Md_hand : jl_cw m_Md_hand ∈ jl_T := jl_in (List.mem_of_getElem? (i := 1017) (by decide +kernel)) (by decide +kernel)
theorem ww_Md_hand : Cond.instanceMethod y_Md_hand ∈ jl_T := jl_in (List.mem_of_getElem? (i := 1015) (by decide +kernel)) (by decide +kernel)
theorem sw_Md_hand : Cond.selects r_Md y_Md_hand y_Md_hand ∈ jl_T := jl_in (List.mem_of_getElem? (i := 1016) (by decide +kernel)) (by decide +kernel)
theorem cw_Md_highest : jl_cw m_Md_highest ∈ jl_T := jl_in (List.mem_of_getElem? (i := 1021) (by decide +kernel)) (by decide +kernel)
theorem ww_Md_highest : Cond.instanceMethod y_Md_highest ∈ jl_T := jl_in (List.mem_of_getElem? (i := 1019) (by decide +kernel)) (by decide +kernel)
theorem sw_Md_highest : Cond.selects r_Md y_Md_highest y_Md_highest ∈ jl_T := jl_in (List.mem_of_getElem? (i := 1020) (by decide +kernel)) (by decide +kernel)
theorem cw_Md_floor : jl_cw m_Md_floor ∈ jl_T := jl_in (List.mem_of_getElem? (i := 1025) (by decide +kernel)) (by decide +kernel)
theorem ww_Md_floor : Cond.instanceMethod y_Md_floor ∈ jl_T := jl_in (List.mem_of_getElem? (i := 1023) (by decide +kernel)) (by decide +kernel)
theorem sw_Md_floor : Cond.selects r_Md y_Md_floor y_Md_floor ∈ jl_T := jl_in (List.mem_of_getElem? (i := 1024) (by decide +kernel)) (by decide +kernel)
theorem nw_Cn : Cond.initialized "SiteswapStudio$Counter" ∈ jl_T := jl_in (List.mem_of_getElem? (i := 48) (by decide +kernel)) (by decide +kernel)
theorem nw_Cy : Cond.initialized "SiteswapStudio$CycleSearch" ∈ jl_T := jl_in (List.mem_of_getElem? (i := 49) (by decide +kernel)) (by decide +kernel)
theorem nw_Dr : Cond.initialized "SiteswapStudio$Draft" ∈ jl_T := jl_in (List.mem_of_getElem? (i := 46) (by decide +kernel)) (by decide +kernel)
theorem nw_Jo : Cond.initialized "SiteswapStudio$Joint" ∈ jl_T := jl_in (List.mem_of_getElem? (i := 47) (by decide +kernel)) (by decide +kernel)
theorem nw_Sg : Cond.initialized "SiteswapStudio$Stage" ∈ jl_T := jl_in (List.mem_of_getElem? (i := 50) (by decide +kernel)) (by decide +kernel)
theorem nw_St : Cond.initialized "SiteswapStudio" ∈ jl_T := jl_in (List.mem_of_getElem? (i := 45) (by decide +kernel)) (by decide +kernel)
theorem nw_Md : Cond.initialized "SiteswapStudioModel" ∈ jl_T := jl_in (List.mem_of_getElem? (i := 51) (by decide +kernel)) (by decide +kernel)
theorem nw_Lw : Cond.initialized "SiteswapStudioLaw" ∈ jl_T := jl_in (List.mem_of_getElem? (i := 44) (by decide +kernel)) (by decide +kernel)
theorem nw_Ar : Cond.initialized "java/util/Arrays" ∈ jl_T := jl_in (List.mem_of_getElem? (i := 56) (by decide +kernel)) (by decide +kernel)
theorem nw_In : Cond.initialized "java/lang/Integer" ∈ jl_T := jl_in (List.mem_of_getElem? (i := 61) (by decide +kernel)) (by decide +kernel)
theorem nw_Sy : Cond.initialized "java/lang/System" ∈ jl_T := jl_in (List.mem_of_getElem? (i := 59) (by decide +kernel)) (by decide +kernel)
theorem kw_St_9 : Cond.classLink "SiteswapStudio" 9 "SiteswapStudio$Draft" ∈ jl_T := jl_in (List.mem_of_getElem? (i := 70) (by decide +kernel)) (by decide +kernel)
theorem kw_St_20 : Cond.classLink "SiteswapStudio" 20 "SiteswapStudio$Joint" ∈ jl_T := jl_in (List.mem_of_getElem? (i := 101) (by decide +kernel)) (by decide +kernel)
theorem kw_St_27 : Cond.classLink "SiteswapStudio" 27 "SiteswapStudio$Counter" ∈ jl_T := jl_in (List.mem_of_getElem? (i := 136) (by decide +kernel)) (by decide +kernel)
theorem kw_St_34 : Cond.classLink "SiteswapStudio" 34 "SiteswapStudio$CycleSearch" ∈ jl_T := jl_in (List.mem_of_getElem? (i := 146) (by decide +kernel)) (by decide +kernel)
theorem kw_St_41 : Cond.classLink "SiteswapStudio" 41 "SiteswapStudio$Stage" ∈ jl_T := jl_in (List.mem_of_getElem? (i := 161) (by decide +kernel)) (by decide +kernel)
theorem kw_St_48 : Cond.classLink "SiteswapStudio" 48 "java/lang/IllegalArgumentException" ∈ jl_T := jl_in (List.mem_of_getElem? (i := 277) (by decide +kernel)) (by decide +kernel)
theorem kw_St_89 : Cond.classLink "SiteswapStudio" 89 "java/lang/IllegalStateException" ∈ jl_T := jl_in (List.mem_of_getElem? (i := 404) (by decide +kernel)) (by decide +kernel)
theorem kw_St_133 : Cond.classLink "SiteswapStudio" 133 "java/lang/IndexOutOfBoundsException" ∈ jl_T := jl_in (List.mem_of_getElem? (i := 370) (by decide +kernel)) (by decide +kernel)
theorem kw_St_151 : Cond.classLink "SiteswapStudio" 151 "java/util/NoSuchElementException" ∈ jl_T := jl_in (List.mem_of_getElem? (i := 531) (by decide +kernel)) (by decide +kernel)
theorem kw_Cy_9 : Cond.classLink "SiteswapStudio$CycleSearch" 9 "SiteswapStudio$Draft" ∈ jl_T := jl_in (List.mem_of_getElem? (i := 152) (by decide +kernel)) (by decide +kernel)
theorem kw_Sg_9 : Cond.classLink "SiteswapStudio$Stage" 9 "SiteswapStudio$Draft" ∈ jl_T := jl_in (List.mem_of_getElem? (i := 167) (by decide +kernel)) (by decide +kernel)
theorem kw_Lw_8 : Cond.classLink "SiteswapStudioLaw" 8 "SiteswapStudio" ∈ jl_T := jl_in (List.mem_of_getElem? (i := 62) (by decide +kernel)) (by decide +kernel)
theorem kw_Lw_13 : Cond.classLink "SiteswapStudioLaw" 13 "java/lang/IllegalArgumentException" ∈ jl_T := jl_in (List.mem_of_getElem? (i := 272) (by decide +kernel)) (by decide +kernel)
theorem kw_Lw_19 : Cond.classLink "SiteswapStudioLaw" 19 "java/lang/IndexOutOfBoundsException" ∈ jl_T := jl_in (List.mem_of_getElem? (i := 357) (by decide +kernel)) (by decide +kernel)
theorem kw_Lw_24 : Cond.classLink "SiteswapStudioLaw" 24 "java/lang/IllegalStateException" ∈ jl_T := jl_in (List.mem_of_getElem? (i := 399) (by decide +kernel)) (by decide +kernel)
theorem kw_Lw_51 : Cond.classLink "SiteswapStudioLaw" 51 "java/util/NoSuchElementException" ∈ jl_T := jl_in (List.mem_of_getElem? (i := 526) (by decide +kernel)) (by decide +kernel)
theorem kw_Lw_84 : Cond.classLink "SiteswapStudioLaw" 84 "SiteswapStudioModel" ∈ jl_T := jl_in (List.mem_of_getElem? (i := 773) (by decide +kernel)) (by decide +kernel)
theorem vw_Cn : Cond.instantiable "SiteswapStudio$Counter" 1 ∈ jl_T := jl_in (List.mem_of_getElem? (i := 137) (by decide +kernel)) (by decide +kernel)
theorem vw_Cy : Cond.instantiable "SiteswapStudio$CycleSearch" 2 ∈ jl_T := jl_in (List.mem_of_getElem? (i := 147) (by decide +kernel)) (by decide +kernel)
theorem vw_Dr : Cond.instantiable "SiteswapStudio$Draft" 6 ∈ jl_T := jl_in (List.mem_of_getElem? (i := 71) (by decide +kernel)) (by decide +kernel)
theorem vw_Jo : Cond.instantiable "SiteswapStudio$Joint" 8 ∈ jl_T := jl_in (List.mem_of_getElem? (i := 102) (by decide +kernel)) (by decide +kernel)
theorem vw_Sg : Cond.instantiable "SiteswapStudio$Stage" 7 ∈ jl_T := jl_in (List.mem_of_getElem? (i := 162) (by decide +kernel)) (by decide +kernel)
theorem vw_St : Cond.instantiable "SiteswapStudio" 6 ∈ jl_T := jl_in (List.mem_of_getElem? (i := 63) (by decide +kernel)) (by decide +kernel)
theorem vw_Md : Cond.instantiable "SiteswapStudioModel" 21 ∈ jl_T := jl_in (List.mem_of_getElem? (i := 774) (by decide +kernel)) (by decide +kernel)
theorem lw_c_In_265 : Cond.constant "java/lang/Integer" 265 (1431655765) ∈ jl_T := jl_in (List.mem_of_getElem? (i := 641) (by decide +kernel)) (by decide +kernel)
theorem lw_c_In_266 : Cond.constant "java/lang/Integer" 266 (858993459) ∈ jl_T := jl_in (List.mem_of_getElem? (i := 642) (by decide +kernel)) (by decide +kernel)
theorem lw_c_In_267 : Cond.constant "java/lang/Integer" 267 (252645135) ∈ jl_T := jl_in (List.mem_of_getElem? (i := 643) (by decide +kernel)) (by decide +kernel)
end
section
theorem d_Ar_fill_0 : decode b_Ar_fill 0 = .ok (.iconst 0, 1) := by decide +kernel
theorem d_Ar_fill_1 : decode b_Ar_fill 1 = .ok (.istore_n 2, 1) := by decide +kernel
theorem d_Ar_fill_2 : decode b_Ar_fill 2 = .ok (.aload_n 0, 1) := by decide +kernel
theorem d_Ar_fill_3 : decode b_Ar_fill 3 = .ok (.arraylength, 1) := by decide +kernel
theorem d_Ar_fill_4 : decode b_Ar_fill 4 = .ok (.istore_n 3, 1) := by decide +kernel
theorem d_Ar_fill_5 : decode b_Ar_fill 5 = .ok (.iload_n 2, 1) := by decide +kernel
theorem d_Ar_fill_6 : decode b_Ar_fill 6 = .ok (.iload_n 3, 1) := by decide +kernel
theorem d_Ar_fill_7 : decode b_Ar_fill 7 = .ok (.if_icmp .ge 13, 3) := by decide +kernel
theorem d_Ar_fill_10 : decode b_Ar_fill 10 = .ok (.aload_n 0, 1) := by decide +kernel
theorem d_Ar_fill_11 : decode b_Ar_fill 11 = .ok (.iload_n 2, 1) := by decide +kernel
theorem d_Ar_fill_12 : decode b_Ar_fill 12 = .ok (.iload_n 1, 1) := by decide +kernel
theorem d_Ar_fill_13 : decode b_Ar_fill 13 = .ok (.iastore, 1) := by decide +kernel
theorem d_Ar_fill_14 : decode b_Ar_fill 14 = .ok (.iinc 2 1, 3) := by decide +kernel
theorem d_Ar_fill_17 : decode b_Ar_fill 17 = .ok (.goto (-12), 3) := by decide +kernel
theorem d_Ar_fill_20 : decode b_Ar_fill 20 = .ok (.return_, 1) := by decide +kernel
theorem d_In_bitCount_0 : decode b_In_bitCount 0 = .ok (.iload_n 0, 1) := by decide +kernel
theorem d_In_bitCount_1 : decode b_In_bitCount 1 = .ok (.iload_n 0, 1) := by decide +kernel
theorem d_In_bitCount_2 : decode b_In_bitCount 2 = .ok (.iconst 1, 1) := by decide +kernel
theorem d_In_bitCount_3 : decode b_In_bitCount 3 = .ok (.iushr, 1) := by decide +kernel
theorem d_In_bitCount_4 : decode b_In_bitCount 4 = .ok (.ldc_w 265, 3) := by decide +kernel
theorem d_In_bitCount_7 : decode b_In_bitCount 7 = .ok (.iand, 1) := by decide +kernel
theorem d_In_bitCount_8 : decode b_In_bitCount 8 = .ok (.isub, 1) := by decide +kernel
theorem d_In_bitCount_9 : decode b_In_bitCount 9 = .ok (.istore_n 0, 1) := by decide +kernel
theorem d_In_bitCount_10 : decode b_In_bitCount 10 = .ok (.iload_n 0, 1) := by decide +kernel
theorem d_In_bitCount_11 : decode b_In_bitCount 11 = .ok (.ldc_w 266, 3) := by decide +kernel
theorem d_In_bitCount_14 : decode b_In_bitCount 14 = .ok (.iand, 1) := by decide +kernel
theorem d_In_bitCount_15 : decode b_In_bitCount 15 = .ok (.iload_n 0, 1) := by decide +kernel
theorem d_In_bitCount_16 : decode b_In_bitCount 16 = .ok (.iconst 2, 1) := by decide +kernel
theorem d_In_bitCount_17 : decode b_In_bitCount 17 = .ok (.iushr, 1) := by decide +kernel
theorem d_In_bitCount_18 : decode b_In_bitCount 18 = .ok (.ldc_w 266, 3) := by decide +kernel
theorem d_In_bitCount_21 : decode b_In_bitCount 21 = .ok (.iand, 1) := by decide +kernel
theorem d_In_bitCount_22 : decode b_In_bitCount 22 = .ok (.iadd, 1) := by decide +kernel
theorem d_In_bitCount_23 : decode b_In_bitCount 23 = .ok (.istore_n 0, 1) := by decide +kernel
theorem d_In_bitCount_24 : decode b_In_bitCount 24 = .ok (.iload_n 0, 1) := by decide +kernel
theorem d_In_bitCount_25 : decode b_In_bitCount 25 = .ok (.iload_n 0, 1) := by decide +kernel
theorem d_In_bitCount_26 : decode b_In_bitCount 26 = .ok (.iconst 4, 1) := by decide +kernel
theorem d_In_bitCount_27 : decode b_In_bitCount 27 = .ok (.iushr, 1) := by decide +kernel
theorem d_In_bitCount_28 : decode b_In_bitCount 28 = .ok (.iadd, 1) := by decide +kernel
theorem d_In_bitCount_29 : decode b_In_bitCount 29 = .ok (.ldc_w 267, 3) := by decide +kernel
theorem d_In_bitCount_32 : decode b_In_bitCount 32 = .ok (.iand, 1) := by decide +kernel
theorem d_In_bitCount_33 : decode b_In_bitCount 33 = .ok (.istore_n 0, 1) := by decide +kernel
theorem d_In_bitCount_34 : decode b_In_bitCount 34 = .ok (.iload_n 0, 1) := by decide +kernel
theorem d_In_bitCount_35 : decode b_In_bitCount 35 = .ok (.iload_n 0, 1) := by decide +kernel
theorem d_In_bitCount_36 : decode b_In_bitCount 36 = .ok (.bipush 8, 2) := by decide +kernel
theorem d_In_bitCount_38 : decode b_In_bitCount 38 = .ok (.iushr, 1) := by decide +kernel
theorem d_In_bitCount_39 : decode b_In_bitCount 39 = .ok (.iadd, 1) := by decide +kernel
theorem d_In_bitCount_40 : decode b_In_bitCount 40 = .ok (.istore_n 0, 1) := by decide +kernel
theorem d_In_bitCount_41 : decode b_In_bitCount 41 = .ok (.iload_n 0, 1) := by decide +kernel
theorem d_In_bitCount_42 : decode b_In_bitCount 42 = .ok (.iload_n 0, 1) := by decide +kernel
theorem d_In_bitCount_43 : decode b_In_bitCount 43 = .ok (.bipush 16, 2) := by decide +kernel
theorem d_In_bitCount_45 : decode b_In_bitCount 45 = .ok (.iushr, 1) := by decide +kernel
theorem d_In_bitCount_46 : decode b_In_bitCount 46 = .ok (.iadd, 1) := by decide +kernel
theorem d_In_bitCount_47 : decode b_In_bitCount 47 = .ok (.istore_n 0, 1) := by decide +kernel
theorem d_In_bitCount_48 : decode b_In_bitCount 48 = .ok (.iload_n 0, 1) := by decide +kernel
theorem d_In_bitCount_49 : decode b_In_bitCount 49 = .ok (.bipush 63, 2) := by decide +kernel
theorem d_In_bitCount_51 : decode b_In_bitCount 51 = .ok (.iand, 1) := by decide +kernel
theorem d_In_bitCount_52 : decode b_In_bitCount 52 = .ok (.ireturn, 1) := by decide +kernel
end
section
theorem d_Dr_init_0 : decode b_Dr_init 0 = .ok (.aload_n 0, 1) := by decide +kernel
theorem d_Dr_init_1 : decode b_Dr_init 1 = .ok (.invokespecial 3, 3) := by decide +kernel
theorem d_Dr_init_4 : decode b_Dr_init 4 = .ok (.aload_n 0, 1) := by decide +kernel
theorem d_Dr_init_5 : decode b_Dr_init 5 = .ok (.bipush 48, 2) := by decide +kernel
theorem d_Dr_init_7 : decode b_Dr_init 7 = .ok (.newarray .int, 2) := by decide +kernel
theorem d_Dr_init_9 : decode b_Dr_init 9 = .ok (.putfield 9, 3) := by decide +kernel
theorem d_Dr_init_12 : decode b_Dr_init 12 = .ok (.aload_n 0, 1) := by decide +kernel
theorem d_Dr_init_13 : decode b_Dr_init 13 = .ok (.bipush 16, 2) := by decide +kernel
theorem d_Dr_init_15 : decode b_Dr_init 15 = .ok (.newarray .int, 2) := by decide +kernel
theorem d_Dr_init_17 : decode b_Dr_init 17 = .ok (.putfield 15, 3) := by decide +kernel
theorem d_Dr_init_20 : decode b_Dr_init 20 = .ok (.aload_n 0, 1) := by decide +kernel
theorem d_Dr_init_21 : decode b_Dr_init 21 = .ok (.bipush 16, 2) := by decide +kernel
theorem d_Dr_init_23 : decode b_Dr_init 23 = .ok (.newarray .int, 2) := by decide +kernel
theorem d_Dr_init_25 : decode b_Dr_init 25 = .ok (.putfield 18, 3) := by decide +kernel
theorem d_Dr_init_28 : decode b_Dr_init 28 = .ok (.aload_n 0, 1) := by decide +kernel
theorem d_Dr_init_29 : decode b_Dr_init 29 = .ok (.bipush 16, 2) := by decide +kernel
theorem d_Dr_init_31 : decode b_Dr_init 31 = .ok (.newarray .int, 2) := by decide +kernel
theorem d_Dr_init_33 : decode b_Dr_init 33 = .ok (.putfield 21, 3) := by decide +kernel
theorem d_Dr_init_36 : decode b_Dr_init 36 = .ok (.aload_n 0, 1) := by decide +kernel
theorem d_Dr_init_37 : decode b_Dr_init 37 = .ok (.iconst 0, 1) := by decide +kernel
theorem d_Dr_init_38 : decode b_Dr_init 38 = .ok (.putfield 24, 3) := by decide +kernel
theorem d_Dr_init_41 : decode b_Dr_init 41 = .ok (.aload_n 0, 1) := by decide +kernel
theorem d_Dr_init_42 : decode b_Dr_init 42 = .ok (.iconst 1, 1) := by decide +kernel
theorem d_Dr_init_43 : decode b_Dr_init 43 = .ok (.putfield 28, 3) := by decide +kernel
theorem d_Dr_init_46 : decode b_Dr_init 46 = .ok (.aload_n 0, 1) := by decide +kernel
theorem d_Dr_init_47 : decode b_Dr_init 47 = .ok (.getfield 15, 3) := by decide +kernel
theorem d_Dr_init_50 : decode b_Dr_init 50 = .ok (.iconst 0, 1) := by decide +kernel
theorem d_Dr_init_51 : decode b_Dr_init 51 = .ok (.iconst 1, 1) := by decide +kernel
theorem d_Dr_init_52 : decode b_Dr_init 52 = .ok (.iastore, 1) := by decide +kernel
theorem d_Dr_init_53 : decode b_Dr_init 53 = .ok (.return_, 1) := by decide +kernel
theorem d_Dr_isValid_0 : decode b_Dr_isValid 0 = .ok (.aload_n 0, 1) := by decide +kernel
theorem d_Dr_isValid_1 : decode b_Dr_isValid 1 = .ok (.invokevirtual 55, 3) := by decide +kernel
theorem d_Dr_isValid_4 : decode b_Dr_isValid 4 = .ok (.iconst (-1), 1) := by decide +kernel
theorem d_Dr_isValid_5 : decode b_Dr_isValid 5 = .ok (.if_icmp .ne 7, 3) := by decide +kernel
theorem d_Dr_isValid_8 : decode b_Dr_isValid 8 = .ok (.iconst 1, 1) := by decide +kernel
theorem d_Dr_isValid_9 : decode b_Dr_isValid 9 = .ok (.goto 4, 3) := by decide +kernel
theorem d_Dr_isValid_12 : decode b_Dr_isValid 12 = .ok (.iconst 0, 1) := by decide +kernel
theorem d_Dr_isValid_13 : decode b_Dr_isValid 13 = .ok (.ireturn, 1) := by decide +kernel
theorem d_Dr_firstClash_0 : decode b_Dr_firstClash 0 = .ok (.aload_n 0, 1) := by decide +kernel
theorem d_Dr_firstClash_1 : decode b_Dr_firstClash 1 = .ok (.getfield 21, 3) := by decide +kernel
theorem d_Dr_firstClash_4 : decode b_Dr_firstClash 4 = .ok (.iconst 0, 1) := by decide +kernel
theorem d_Dr_firstClash_5 : decode b_Dr_firstClash 5 = .ok (.invokestatic 31, 3) := by decide +kernel
theorem d_Dr_firstClash_8 : decode b_Dr_firstClash 8 = .ok (.aload_n 0, 1) := by decide +kernel
theorem d_Dr_firstClash_9 : decode b_Dr_firstClash 9 = .ok (.getfield 24, 3) := by decide +kernel
theorem d_Dr_firstClash_12 : decode b_Dr_firstClash 12 = .ok (.iconst 1, 1) := by decide +kernel
theorem d_Dr_firstClash_13 : decode b_Dr_firstClash 13 = .ok (.if_icmp .ne 10, 3) := by decide +kernel
theorem d_Dr_firstClash_16 : decode b_Dr_firstClash 16 = .ok (.aload_n 0, 1) := by decide +kernel
theorem d_Dr_firstClash_17 : decode b_Dr_firstClash 17 = .ok (.invokevirtual 63, 3) := by decide +kernel
theorem d_Dr_firstClash_20 : decode b_Dr_firstClash 20 = .ok (.goto 7, 3) := by decide +kernel
theorem d_Dr_firstClash_23 : decode b_Dr_firstClash 23 = .ok (.aload_n 0, 1) := by decide +kernel
theorem d_Dr_firstClash_24 : decode b_Dr_firstClash 24 = .ok (.invokevirtual 66, 3) := by decide +kernel
theorem d_Dr_firstClash_27 : decode b_Dr_firstClash 27 = .ok (.ireturn, 1) := by decide +kernel
theorem d_Dr_firstUneven_0 : decode b_Dr_firstUneven 0 = .ok (.iconst 0, 1) := by decide +kernel
theorem d_Dr_firstUneven_1 : decode b_Dr_firstUneven 1 = .ok (.istore_n 1, 1) := by decide +kernel
theorem d_Dr_firstUneven_2 : decode b_Dr_firstUneven 2 = .ok (.iload_n 1, 1) := by decide +kernel
theorem d_Dr_firstUneven_3 : decode b_Dr_firstUneven 3 = .ok (.aload_n 0, 1) := by decide +kernel
theorem d_Dr_firstUneven_4 : decode b_Dr_firstUneven 4 = .ok (.getfield 28, 3) := by decide +kernel
theorem d_Dr_firstUneven_7 : decode b_Dr_firstUneven 7 = .ok (.if_icmp .ge 63, 3) := by decide +kernel
theorem d_Dr_firstUneven_10 : decode b_Dr_firstUneven 10 = .ok (.iconst 0, 1) := by decide +kernel
theorem d_Dr_firstUneven_11 : decode b_Dr_firstUneven 11 = .ok (.istore_n 2, 1) := by decide +kernel
theorem d_Dr_firstUneven_12 : decode b_Dr_firstUneven 12 = .ok (.iload_n 2, 1) := by decide +kernel
theorem d_Dr_firstUneven_13 : decode b_Dr_firstUneven 13 = .ok (.aload_n 0, 1) := by decide +kernel
theorem d_Dr_firstUneven_14 : decode b_Dr_firstUneven 14 = .ok (.getfield 15, 3) := by decide +kernel
theorem d_Dr_firstUneven_17 : decode b_Dr_firstUneven 17 = .ok (.iload_n 1, 1) := by decide +kernel
theorem d_Dr_firstUneven_18 : decode b_Dr_firstUneven 18 = .ok (.iaload, 1) := by decide +kernel
theorem d_Dr_firstUneven_19 : decode b_Dr_firstUneven 19 = .ok (.if_icmp .ge 45, 3) := by decide +kernel
theorem d_Dr_firstUneven_22 : decode b_Dr_firstUneven 22 = .ok (.aload_n 0, 1) := by decide +kernel
theorem d_Dr_firstUneven_23 : decode b_Dr_firstUneven 23 = .ok (.iload_n 1, 1) := by decide +kernel
theorem d_Dr_firstUneven_24 : decode b_Dr_firstUneven 24 = .ok (.iload_n 2, 1) := by decide +kernel
theorem d_Dr_firstUneven_25 : decode b_Dr_firstUneven 25 = .ok (.invokevirtual 69, 3) := by decide +kernel
theorem d_Dr_firstUneven_28 : decode b_Dr_firstUneven 28 = .ok (.istore_n 3, 1) := by decide +kernel
theorem d_Dr_firstUneven_29 : decode b_Dr_firstUneven 29 = .ok (.iload_n 3, 1) := by decide +kernel
theorem d_Dr_firstUneven_30 : decode b_Dr_firstUneven 30 = .ok (.ifCond .le 28, 3) := by decide +kernel
theorem d_Dr_firstUneven_33 : decode b_Dr_firstUneven 33 = .ok (.aload_n 0, 1) := by decide +kernel
theorem d_Dr_firstUneven_34 : decode b_Dr_firstUneven 34 = .ok (.getfield 21, 3) := by decide +kernel
theorem d_Dr_firstUneven_37 : decode b_Dr_firstUneven 37 = .ok (.iload_n 1, 1) := by decide +kernel
theorem d_Dr_firstUneven_38 : decode b_Dr_firstUneven 38 = .ok (.dup2, 1) := by decide +kernel
theorem d_Dr_firstUneven_39 : decode b_Dr_firstUneven 39 = .ok (.iaload, 1) := by decide +kernel
theorem d_Dr_firstUneven_40 : decode b_Dr_firstUneven 40 = .ok (.iconst 1, 1) := by decide +kernel
theorem d_Dr_firstUneven_41 : decode b_Dr_firstUneven 41 = .ok (.isub, 1) := by decide +kernel
theorem d_Dr_firstUneven_42 : decode b_Dr_firstUneven 42 = .ok (.iastore, 1) := by decide +kernel
theorem d_Dr_firstUneven_43 : decode b_Dr_firstUneven 43 = .ok (.aload_n 0, 1) := by decide +kernel
theorem d_Dr_firstUneven_44 : decode b_Dr_firstUneven 44 = .ok (.getfield 21, 3) := by decide +kernel
theorem d_Dr_firstUneven_47 : decode b_Dr_firstUneven 47 = .ok (.aload_n 0, 1) := by decide +kernel
theorem d_Dr_firstUneven_48 : decode b_Dr_firstUneven 48 = .ok (.iload_n 1, 1) := by decide +kernel
theorem d_Dr_firstUneven_49 : decode b_Dr_firstUneven 49 = .ok (.iload_n 3, 1) := by decide +kernel
theorem d_Dr_firstUneven_50 : decode b_Dr_firstUneven 50 = .ok (.invokevirtual 72, 3) := by decide +kernel
theorem d_Dr_firstUneven_53 : decode b_Dr_firstUneven 53 = .ok (.dup2, 1) := by decide +kernel
theorem d_Dr_firstUneven_54 : decode b_Dr_firstUneven 54 = .ok (.iaload, 1) := by decide +kernel
theorem d_Dr_firstUneven_55 : decode b_Dr_firstUneven 55 = .ok (.iconst 1, 1) := by decide +kernel
theorem d_Dr_firstUneven_56 : decode b_Dr_firstUneven 56 = .ok (.iadd, 1) := by decide +kernel
theorem d_Dr_firstUneven_57 : decode b_Dr_firstUneven 57 = .ok (.iastore, 1) := by decide +kernel
theorem d_Dr_firstUneven_58 : decode b_Dr_firstUneven 58 = .ok (.iinc 2 1, 3) := by decide +kernel
theorem d_Dr_firstUneven_61 : decode b_Dr_firstUneven 61 = .ok (.goto (-49), 3) := by decide +kernel
theorem d_Dr_firstUneven_64 : decode b_Dr_firstUneven 64 = .ok (.iinc 1 1, 3) := by decide +kernel
theorem d_Dr_firstUneven_67 : decode b_Dr_firstUneven 67 = .ok (.goto (-65), 3) := by decide +kernel
theorem d_Dr_firstUneven_70 : decode b_Dr_firstUneven 70 = .ok (.iconst 0, 1) := by decide +kernel
theorem d_Dr_firstUneven_71 : decode b_Dr_firstUneven 71 = .ok (.istore_n 1, 1) := by decide +kernel
theorem d_Dr_firstUneven_72 : decode b_Dr_firstUneven 72 = .ok (.iload_n 1, 1) := by decide +kernel
theorem d_Dr_firstUneven_73 : decode b_Dr_firstUneven 73 = .ok (.aload_n 0, 1) := by decide +kernel
theorem d_Dr_firstUneven_74 : decode b_Dr_firstUneven 74 = .ok (.getfield 28, 3) := by decide +kernel
theorem d_Dr_firstUneven_77 : decode b_Dr_firstUneven 77 = .ok (.if_icmp .ge 20, 3) := by decide +kernel
theorem d_Dr_firstUneven_80 : decode b_Dr_firstUneven 80 = .ok (.aload_n 0, 1) := by decide +kernel
theorem d_Dr_firstUneven_81 : decode b_Dr_firstUneven 81 = .ok (.getfield 21, 3) := by decide +kernel
theorem d_Dr_firstUneven_84 : decode b_Dr_firstUneven 84 = .ok (.iload_n 1, 1) := by decide +kernel
theorem d_Dr_firstUneven_85 : decode b_Dr_firstUneven 85 = .ok (.iaload, 1) := by decide +kernel
theorem d_Dr_firstUneven_86 : decode b_Dr_firstUneven 86 = .ok (.ifCond .eq 5, 3) := by decide +kernel
theorem d_Dr_firstUneven_89 : decode b_Dr_firstUneven 89 = .ok (.iload_n 1, 1) := by decide +kernel
theorem d_Dr_firstUneven_90 : decode b_Dr_firstUneven 90 = .ok (.ireturn, 1) := by decide +kernel
theorem d_Dr_firstUneven_91 : decode b_Dr_firstUneven 91 = .ok (.iinc 1 1, 3) := by decide +kernel
theorem d_Dr_firstUneven_94 : decode b_Dr_firstUneven 94 = .ok (.goto (-22), 3) := by decide +kernel
theorem d_Dr_firstUneven_97 : decode b_Dr_firstUneven 97 = .ok (.iconst (-1), 1) := by decide +kernel
theorem d_Dr_firstUneven_98 : decode b_Dr_firstUneven 98 = .ok (.ireturn, 1) := by decide +kernel
theorem d_Dr_heightOf_0 : decode b_Dr_heightOf 0 = .ok (.aload_n 0, 1) := by decide +kernel
theorem d_Dr_heightOf_1 : decode b_Dr_heightOf 1 = .ok (.getfield 9, 3) := by decide +kernel
theorem d_Dr_heightOf_4 : decode b_Dr_heightOf 4 = .ok (.iload_n 1, 1) := by decide +kernel
theorem d_Dr_heightOf_5 : decode b_Dr_heightOf 5 = .ok (.iconst 3, 1) := by decide +kernel
theorem d_Dr_heightOf_6 : decode b_Dr_heightOf 6 = .ok (.imul, 1) := by decide +kernel
theorem d_Dr_heightOf_7 : decode b_Dr_heightOf 7 = .ok (.iload_n 2, 1) := by decide +kernel
theorem d_Dr_heightOf_8 : decode b_Dr_heightOf 8 = .ok (.iadd, 1) := by decide +kernel
theorem d_Dr_heightOf_9 : decode b_Dr_heightOf 9 = .ok (.iaload, 1) := by decide +kernel
theorem d_Dr_heightOf_10 : decode b_Dr_heightOf 10 = .ok (.ireturn, 1) := by decide +kernel
theorem d_Dr_landingSite_0 : decode b_Dr_landingSite 0 = .ok (.aload_n 0, 1) := by decide +kernel
theorem d_Dr_landingSite_1 : decode b_Dr_landingSite 1 = .ok (.getfield 24, 3) := by decide +kernel
theorem d_Dr_landingSite_4 : decode b_Dr_landingSite 4 = .ok (.iconst 2, 1) := by decide +kernel
theorem d_Dr_landingSite_5 : decode b_Dr_landingSite 5 = .ok (.if_icmp .eq 14, 3) := by decide +kernel
theorem d_Dr_landingSite_8 : decode b_Dr_landingSite 8 = .ok (.iload_n 1, 1) := by decide +kernel
theorem d_Dr_landingSite_9 : decode b_Dr_landingSite 9 = .ok (.iload_n 2, 1) := by decide +kernel
theorem d_Dr_landingSite_10 : decode b_Dr_landingSite 10 = .ok (.iadd, 1) := by decide +kernel
theorem d_Dr_landingSite_11 : decode b_Dr_landingSite 11 = .ok (.aload_n 0, 1) := by decide +kernel
theorem d_Dr_landingSite_12 : decode b_Dr_landingSite 12 = .ok (.getfield 28, 3) := by decide +kernel
theorem d_Dr_landingSite_15 : decode b_Dr_landingSite 15 = .ok (.invokestatic 43, 3) := by decide +kernel
theorem d_Dr_landingSite_18 : decode b_Dr_landingSite 18 = .ok (.ireturn, 1) := by decide +kernel
theorem d_Dr_landingSite_19 : decode b_Dr_landingSite 19 = .ok (.iload_n 1, 1) := by decide +kernel
theorem d_Dr_landingSite_20 : decode b_Dr_landingSite 20 = .ok (.iconst 2, 1) := by decide +kernel
theorem d_Dr_landingSite_21 : decode b_Dr_landingSite 21 = .ok (.invokestatic 43, 3) := by decide +kernel
theorem d_Dr_landingSite_24 : decode b_Dr_landingSite 24 = .ok (.istore_n 3, 1) := by decide +kernel
theorem d_Dr_landingSite_25 : decode b_Dr_landingSite 25 = .ok (.iload_n 1, 1) := by decide +kernel
theorem d_Dr_landingSite_26 : decode b_Dr_landingSite 26 = .ok (.iload_n 3, 1) := by decide +kernel
theorem d_Dr_landingSite_27 : decode b_Dr_landingSite 27 = .ok (.isub, 1) := by decide +kernel
theorem d_Dr_landingSite_28 : decode b_Dr_landingSite 28 = .ok (.iload_n 2, 1) := by decide +kernel
theorem d_Dr_landingSite_29 : decode b_Dr_landingSite 29 = .ok (.iadd, 1) := by decide +kernel
theorem d_Dr_landingSite_30 : decode b_Dr_landingSite 30 = .ok (.istore 4, 2) := by decide +kernel
theorem d_Dr_landingSite_32 : decode b_Dr_landingSite 32 = .ok (.iload 4, 2) := by decide +kernel
theorem d_Dr_landingSite_34 : decode b_Dr_landingSite 34 = .ok (.aload_n 0, 1) := by decide +kernel
theorem d_Dr_landingSite_35 : decode b_Dr_landingSite 35 = .ok (.getfield 28, 3) := by decide +kernel
theorem d_Dr_landingSite_38 : decode b_Dr_landingSite 38 = .ok (.invokestatic 43, 3) := by decide +kernel
theorem d_Dr_landingSite_41 : decode b_Dr_landingSite 41 = .ok (.aload_n 0, 1) := by decide +kernel
theorem d_Dr_landingSite_42 : decode b_Dr_landingSite 42 = .ok (.iload_n 1, 1) := by decide +kernel
theorem d_Dr_landingSite_43 : decode b_Dr_landingSite 43 = .ok (.iload_n 3, 1) := by decide +kernel
theorem d_Dr_landingSite_44 : decode b_Dr_landingSite 44 = .ok (.iload 4, 2) := by decide +kernel
theorem d_Dr_landingSite_46 : decode b_Dr_landingSite 46 = .ok (.invokevirtual 51, 3) := by decide +kernel
theorem d_Dr_landingSite_49 : decode b_Dr_landingSite 49 = .ok (.iadd, 1) := by decide +kernel
theorem d_Dr_landingSite_50 : decode b_Dr_landingSite 50 = .ok (.ireturn, 1) := by decide +kernel
theorem d_Dr_landingHand_0 : decode b_Dr_landingHand 0 = .ok (.aload_n 0, 1) := by decide +kernel
theorem d_Dr_landingHand_1 : decode b_Dr_landingHand 1 = .ok (.getfield 24, 3) := by decide +kernel
theorem d_Dr_landingHand_4 : decode b_Dr_landingHand 4 = .ok (.iconst 2, 1) := by decide +kernel
theorem d_Dr_landingHand_5 : decode b_Dr_landingHand 5 = .ok (.if_icmp .eq 9, 3) := by decide +kernel
theorem d_Dr_landingHand_8 : decode b_Dr_landingHand 8 = .ok (.iload_n 3, 1) := by decide +kernel
theorem d_Dr_landingHand_9 : decode b_Dr_landingHand 9 = .ok (.iconst 2, 1) := by decide +kernel
theorem d_Dr_landingHand_10 : decode b_Dr_landingHand 10 = .ok (.invokestatic 43, 3) := by decide +kernel
theorem d_Dr_landingHand_13 : decode b_Dr_landingHand 13 = .ok (.ireturn, 1) := by decide +kernel
theorem d_Dr_landingHand_14 : decode b_Dr_landingHand 14 = .ok (.aload_n 0, 1) := by decide +kernel
theorem d_Dr_landingHand_15 : decode b_Dr_landingHand 15 = .ok (.getfield 18, 3) := by decide +kernel
theorem d_Dr_landingHand_18 : decode b_Dr_landingHand 18 = .ok (.iload_n 1, 1) := by decide +kernel
theorem d_Dr_landingHand_19 : decode b_Dr_landingHand 19 = .ok (.iaload, 1) := by decide +kernel
theorem d_Dr_landingHand_20 : decode b_Dr_landingHand 20 = .ok (.ifCond .eq 9, 3) := by decide +kernel
theorem d_Dr_landingHand_23 : decode b_Dr_landingHand 23 = .ok (.iconst 1, 1) := by decide +kernel
theorem d_Dr_landingHand_24 : decode b_Dr_landingHand 24 = .ok (.iload_n 2, 1) := by decide +kernel
theorem d_Dr_landingHand_25 : decode b_Dr_landingHand 25 = .ok (.isub, 1) := by decide +kernel
theorem d_Dr_landingHand_26 : decode b_Dr_landingHand 26 = .ok (.goto 4, 3) := by decide +kernel
theorem d_Dr_landingHand_29 : decode b_Dr_landingHand 29 = .ok (.iload_n 2, 1) := by decide +kernel
theorem d_Dr_landingHand_30 : decode b_Dr_landingHand 30 = .ok (.ireturn, 1) := by decide +kernel
theorem d_Dr_firstMeeting_0 : decode b_Dr_firstMeeting 0 = .ok (.iconst 0, 1) := by decide +kernel
theorem d_Dr_firstMeeting_1 : decode b_Dr_firstMeeting 1 = .ok (.istore_n 1, 1) := by decide +kernel
theorem d_Dr_firstMeeting_2 : decode b_Dr_firstMeeting 2 = .ok (.iload_n 1, 1) := by decide +kernel
theorem d_Dr_firstMeeting_3 : decode b_Dr_firstMeeting 3 = .ok (.aload_n 0, 1) := by decide +kernel
theorem d_Dr_firstMeeting_4 : decode b_Dr_firstMeeting 4 = .ok (.getfield 28, 3) := by decide +kernel
theorem d_Dr_firstMeeting_7 : decode b_Dr_firstMeeting 7 = .ok (.if_icmp .ge 44, 3) := by decide +kernel
theorem d_Dr_firstMeeting_10 : decode b_Dr_firstMeeting 10 = .ok (.aload_n 0, 1) := by decide +kernel
theorem d_Dr_firstMeeting_11 : decode b_Dr_firstMeeting 11 = .ok (.iload_n 1, 1) := by decide +kernel
theorem d_Dr_firstMeeting_12 : decode b_Dr_firstMeeting 12 = .ok (.invokevirtual 75, 3) := by decide +kernel
theorem d_Dr_firstMeeting_15 : decode b_Dr_firstMeeting 15 = .ok (.istore_n 2, 1) := by decide +kernel
theorem d_Dr_firstMeeting_16 : decode b_Dr_firstMeeting 16 = .ok (.iload_n 2, 1) := by decide +kernel
theorem d_Dr_firstMeeting_17 : decode b_Dr_firstMeeting 17 = .ok (.ifCond .le 28, 3) := by decide +kernel
theorem d_Dr_firstMeeting_20 : decode b_Dr_firstMeeting 20 = .ok (.aload_n 0, 1) := by decide +kernel
theorem d_Dr_firstMeeting_21 : decode b_Dr_firstMeeting 21 = .ok (.iload_n 1, 1) := by decide +kernel
theorem d_Dr_firstMeeting_22 : decode b_Dr_firstMeeting 22 = .ok (.iload_n 2, 1) := by decide +kernel
theorem d_Dr_firstMeeting_23 : decode b_Dr_firstMeeting 23 = .ok (.invokevirtual 72, 3) := by decide +kernel
theorem d_Dr_firstMeeting_26 : decode b_Dr_firstMeeting 26 = .ok (.istore_n 3, 1) := by decide +kernel
theorem d_Dr_firstMeeting_27 : decode b_Dr_firstMeeting 27 = .ok (.aload_n 0, 1) := by decide +kernel
theorem d_Dr_firstMeeting_28 : decode b_Dr_firstMeeting 28 = .ok (.getfield 21, 3) := by decide +kernel
theorem d_Dr_firstMeeting_31 : decode b_Dr_firstMeeting 31 = .ok (.iload_n 3, 1) := by decide +kernel
theorem d_Dr_firstMeeting_32 : decode b_Dr_firstMeeting 32 = .ok (.iaload, 1) := by decide +kernel
theorem d_Dr_firstMeeting_33 : decode b_Dr_firstMeeting 33 = .ok (.ifCond .eq 5, 3) := by decide +kernel
theorem d_Dr_firstMeeting_36 : decode b_Dr_firstMeeting 36 = .ok (.iload_n 1, 1) := by decide +kernel
theorem d_Dr_firstMeeting_37 : decode b_Dr_firstMeeting 37 = .ok (.ireturn, 1) := by decide +kernel
theorem d_Dr_firstMeeting_38 : decode b_Dr_firstMeeting 38 = .ok (.aload_n 0, 1) := by decide +kernel
theorem d_Dr_firstMeeting_39 : decode b_Dr_firstMeeting 39 = .ok (.getfield 21, 3) := by decide +kernel
theorem d_Dr_firstMeeting_42 : decode b_Dr_firstMeeting 42 = .ok (.iload_n 3, 1) := by decide +kernel
theorem d_Dr_firstMeeting_43 : decode b_Dr_firstMeeting 43 = .ok (.iconst 1, 1) := by decide +kernel
theorem d_Dr_firstMeeting_44 : decode b_Dr_firstMeeting 44 = .ok (.iastore, 1) := by decide +kernel
theorem d_Dr_firstMeeting_45 : decode b_Dr_firstMeeting 45 = .ok (.iinc 1 1, 3) := by decide +kernel
theorem d_Dr_firstMeeting_48 : decode b_Dr_firstMeeting 48 = .ok (.goto (-46), 3) := by decide +kernel
theorem d_Dr_firstMeeting_51 : decode b_Dr_firstMeeting 51 = .ok (.iconst 0, 1) := by decide +kernel
theorem d_Dr_firstMeeting_52 : decode b_Dr_firstMeeting 52 = .ok (.istore_n 1, 1) := by decide +kernel
theorem d_Dr_firstMeeting_53 : decode b_Dr_firstMeeting 53 = .ok (.iload_n 1, 1) := by decide +kernel
theorem d_Dr_firstMeeting_54 : decode b_Dr_firstMeeting 54 = .ok (.aload_n 0, 1) := by decide +kernel
theorem d_Dr_firstMeeting_55 : decode b_Dr_firstMeeting 55 = .ok (.getfield 28, 3) := by decide +kernel
theorem d_Dr_firstMeeting_58 : decode b_Dr_firstMeeting 58 = .ok (.if_icmp .ge 28, 3) := by decide +kernel
theorem d_Dr_firstMeeting_61 : decode b_Dr_firstMeeting 61 = .ok (.aload_n 0, 1) := by decide +kernel
theorem d_Dr_firstMeeting_62 : decode b_Dr_firstMeeting 62 = .ok (.iload_n 1, 1) := by decide +kernel
theorem d_Dr_firstMeeting_63 : decode b_Dr_firstMeeting 63 = .ok (.invokevirtual 75, 3) := by decide +kernel
theorem d_Dr_firstMeeting_66 : decode b_Dr_firstMeeting 66 = .ok (.ifCond .ne 14, 3) := by decide +kernel
theorem d_Dr_firstMeeting_69 : decode b_Dr_firstMeeting 69 = .ok (.aload_n 0, 1) := by decide +kernel
theorem d_Dr_firstMeeting_70 : decode b_Dr_firstMeeting 70 = .ok (.getfield 21, 3) := by decide +kernel
theorem d_Dr_firstMeeting_73 : decode b_Dr_firstMeeting 73 = .ok (.iload_n 1, 1) := by decide +kernel
theorem d_Dr_firstMeeting_74 : decode b_Dr_firstMeeting 74 = .ok (.iaload, 1) := by decide +kernel
theorem d_Dr_firstMeeting_75 : decode b_Dr_firstMeeting 75 = .ok (.ifCond .eq 5, 3) := by decide +kernel
theorem d_Dr_firstMeeting_78 : decode b_Dr_firstMeeting 78 = .ok (.iload_n 1, 1) := by decide +kernel
theorem d_Dr_firstMeeting_79 : decode b_Dr_firstMeeting 79 = .ok (.ireturn, 1) := by decide +kernel
theorem d_Dr_firstMeeting_80 : decode b_Dr_firstMeeting 80 = .ok (.iinc 1 1, 3) := by decide +kernel
theorem d_Dr_firstMeeting_83 : decode b_Dr_firstMeeting 83 = .ok (.goto (-30), 3) := by decide +kernel
theorem d_Dr_firstMeeting_86 : decode b_Dr_firstMeeting 86 = .ok (.iconst (-1), 1) := by decide +kernel
theorem d_Dr_firstMeeting_87 : decode b_Dr_firstMeeting 87 = .ok (.ireturn, 1) := by decide +kernel
theorem d_Dr_firstHeight_0 : decode b_Dr_firstHeight 0 = .ok (.aload_n 0, 1) := by decide +kernel
theorem d_Dr_firstHeight_1 : decode b_Dr_firstHeight 1 = .ok (.getfield 9, 3) := by decide +kernel
theorem d_Dr_firstHeight_4 : decode b_Dr_firstHeight 4 = .ok (.iload_n 1, 1) := by decide +kernel
theorem d_Dr_firstHeight_5 : decode b_Dr_firstHeight 5 = .ok (.aload_n 0, 1) := by decide +kernel
theorem d_Dr_firstHeight_6 : decode b_Dr_firstHeight 6 = .ok (.getfield 28, 3) := by decide +kernel
theorem d_Dr_firstHeight_9 : decode b_Dr_firstHeight 9 = .ok (.invokestatic 43, 3) := by decide +kernel
theorem d_Dr_firstHeight_12 : decode b_Dr_firstHeight 12 = .ok (.iconst 3, 1) := by decide +kernel
theorem d_Dr_firstHeight_13 : decode b_Dr_firstHeight 13 = .ok (.imul, 1) := by decide +kernel
theorem d_Dr_firstHeight_14 : decode b_Dr_firstHeight 14 = .ok (.iaload, 1) := by decide +kernel
theorem d_Dr_firstHeight_15 : decode b_Dr_firstHeight 15 = .ok (.ireturn, 1) := by decide +kernel
theorem d_Dr_clear_0 : decode b_Dr_clear 0 = .ok (.aload_n 0, 1) := by decide +kernel
theorem d_Dr_clear_1 : decode b_Dr_clear 1 = .ok (.iload_n 1, 1) := by decide +kernel
theorem d_Dr_clear_2 : decode b_Dr_clear 2 = .ok (.putfield 24, 3) := by decide +kernel
theorem d_Dr_clear_5 : decode b_Dr_clear 5 = .ok (.aload_n 0, 1) := by decide +kernel
theorem d_Dr_clear_6 : decode b_Dr_clear 6 = .ok (.iload_n 2, 1) := by decide +kernel
theorem d_Dr_clear_7 : decode b_Dr_clear 7 = .ok (.putfield 28, 3) := by decide +kernel
theorem d_Dr_clear_10 : decode b_Dr_clear 10 = .ok (.aload_n 0, 1) := by decide +kernel
theorem d_Dr_clear_11 : decode b_Dr_clear 11 = .ok (.getfield 9, 3) := by decide +kernel
theorem d_Dr_clear_14 : decode b_Dr_clear 14 = .ok (.iconst 0, 1) := by decide +kernel
theorem d_Dr_clear_15 : decode b_Dr_clear 15 = .ok (.invokestatic 31, 3) := by decide +kernel
theorem d_Dr_clear_18 : decode b_Dr_clear 18 = .ok (.aload_n 0, 1) := by decide +kernel
theorem d_Dr_clear_19 : decode b_Dr_clear 19 = .ok (.getfield 15, 3) := by decide +kernel
theorem d_Dr_clear_22 : decode b_Dr_clear 22 = .ok (.iconst 1, 1) := by decide +kernel
theorem d_Dr_clear_23 : decode b_Dr_clear 23 = .ok (.invokestatic 31, 3) := by decide +kernel
theorem d_Dr_clear_26 : decode b_Dr_clear 26 = .ok (.aload_n 0, 1) := by decide +kernel
theorem d_Dr_clear_27 : decode b_Dr_clear 27 = .ok (.getfield 18, 3) := by decide +kernel
theorem d_Dr_clear_30 : decode b_Dr_clear 30 = .ok (.iconst 0, 1) := by decide +kernel
theorem d_Dr_clear_31 : decode b_Dr_clear 31 = .ok (.invokestatic 31, 3) := by decide +kernel
theorem d_Dr_clear_34 : decode b_Dr_clear 34 = .ok (.return_, 1) := by decide +kernel
theorem d_Dr_hasSite_0 : decode b_Dr_hasSite 0 = .ok (.iload_n 1, 1) := by decide +kernel
theorem d_Dr_hasSite_1 : decode b_Dr_hasSite 1 = .ok (.ifCond .lt 15, 3) := by decide +kernel
theorem d_Dr_hasSite_4 : decode b_Dr_hasSite 4 = .ok (.iload_n 1, 1) := by decide +kernel
theorem d_Dr_hasSite_5 : decode b_Dr_hasSite 5 = .ok (.aload_n 0, 1) := by decide +kernel
theorem d_Dr_hasSite_6 : decode b_Dr_hasSite 6 = .ok (.getfield 28, 3) := by decide +kernel
theorem d_Dr_hasSite_9 : decode b_Dr_hasSite 9 = .ok (.if_icmp .ge 7, 3) := by decide +kernel
theorem d_Dr_hasSite_12 : decode b_Dr_hasSite 12 = .ok (.iconst 1, 1) := by decide +kernel
theorem d_Dr_hasSite_13 : decode b_Dr_hasSite 13 = .ok (.goto 4, 3) := by decide +kernel
theorem d_Dr_hasSite_16 : decode b_Dr_hasSite 16 = .ok (.iconst 0, 1) := by decide +kernel
theorem d_Dr_hasSite_17 : decode b_Dr_hasSite 17 = .ok (.ireturn, 1) := by decide +kernel
theorem d_Dr_setFirst_0 : decode b_Dr_setFirst 0 = .ok (.aload_n 0, 1) := by decide +kernel
theorem d_Dr_setFirst_1 : decode b_Dr_setFirst 1 = .ok (.getfield 9, 3) := by decide +kernel
theorem d_Dr_setFirst_4 : decode b_Dr_setFirst 4 = .ok (.iload_n 1, 1) := by decide +kernel
theorem d_Dr_setFirst_5 : decode b_Dr_setFirst 5 = .ok (.iconst 3, 1) := by decide +kernel
theorem d_Dr_setFirst_6 : decode b_Dr_setFirst 6 = .ok (.imul, 1) := by decide +kernel
theorem d_Dr_setFirst_7 : decode b_Dr_setFirst 7 = .ok (.iload_n 2, 1) := by decide +kernel
theorem d_Dr_setFirst_8 : decode b_Dr_setFirst 8 = .ok (.iastore, 1) := by decide +kernel
theorem d_Dr_setFirst_9 : decode b_Dr_setFirst 9 = .ok (.aload_n 0, 1) := by decide +kernel
theorem d_Dr_setFirst_10 : decode b_Dr_setFirst 10 = .ok (.getfield 18, 3) := by decide +kernel
theorem d_Dr_setFirst_13 : decode b_Dr_setFirst 13 = .ok (.iload_n 1, 1) := by decide +kernel
theorem d_Dr_setFirst_14 : decode b_Dr_setFirst 14 = .ok (.iload_n 3, 1) := by decide +kernel
theorem d_Dr_setFirst_15 : decode b_Dr_setFirst 15 = .ok (.ifCond .eq 8, 3) := by decide +kernel
theorem d_Dr_setFirst_18 : decode b_Dr_setFirst 18 = .ok (.bipush 16, 2) := by decide +kernel
theorem d_Dr_setFirst_20 : decode b_Dr_setFirst 20 = .ok (.goto 4, 3) := by decide +kernel
theorem d_Dr_setFirst_23 : decode b_Dr_setFirst 23 = .ok (.iconst 0, 1) := by decide +kernel
theorem d_Dr_setFirst_24 : decode b_Dr_setFirst 24 = .ok (.iastore, 1) := by decide +kernel
theorem d_Dr_setFirst_25 : decode b_Dr_setFirst 25 = .ok (.return_, 1) := by decide +kernel
theorem d_Dr_throwsOf_0 : decode b_Dr_throwsOf 0 = .ok (.aload_n 0, 1) := by decide +kernel
theorem d_Dr_throwsOf_1 : decode b_Dr_throwsOf 1 = .ok (.getfield 15, 3) := by decide +kernel
theorem d_Dr_throwsOf_4 : decode b_Dr_throwsOf 4 = .ok (.iload_n 1, 1) := by decide +kernel
theorem d_Dr_throwsOf_5 : decode b_Dr_throwsOf 5 = .ok (.iaload, 1) := by decide +kernel
theorem d_Dr_throwsOf_6 : decode b_Dr_throwsOf 6 = .ok (.ireturn, 1) := by decide +kernel
theorem d_Dr_append_0 : decode b_Dr_append 0 = .ok (.aload_n 0, 1) := by decide +kernel
theorem d_Dr_append_1 : decode b_Dr_append 1 = .ok (.getfield 9, 3) := by decide +kernel
theorem d_Dr_append_4 : decode b_Dr_append 4 = .ok (.iload_n 1, 1) := by decide +kernel
theorem d_Dr_append_5 : decode b_Dr_append 5 = .ok (.iconst 3, 1) := by decide +kernel
theorem d_Dr_append_6 : decode b_Dr_append 6 = .ok (.imul, 1) := by decide +kernel
theorem d_Dr_append_7 : decode b_Dr_append 7 = .ok (.aload_n 0, 1) := by decide +kernel
theorem d_Dr_append_8 : decode b_Dr_append 8 = .ok (.getfield 15, 3) := by decide +kernel
theorem d_Dr_append_11 : decode b_Dr_append 11 = .ok (.iload_n 1, 1) := by decide +kernel
theorem d_Dr_append_12 : decode b_Dr_append 12 = .ok (.iaload, 1) := by decide +kernel
theorem d_Dr_append_13 : decode b_Dr_append 13 = .ok (.iadd, 1) := by decide +kernel
theorem d_Dr_append_14 : decode b_Dr_append 14 = .ok (.iload_n 2, 1) := by decide +kernel
theorem d_Dr_append_15 : decode b_Dr_append 15 = .ok (.iastore, 1) := by decide +kernel
theorem d_Dr_append_16 : decode b_Dr_append 16 = .ok (.aload_n 0, 1) := by decide +kernel
theorem d_Dr_append_17 : decode b_Dr_append 17 = .ok (.getfield 15, 3) := by decide +kernel
theorem d_Dr_append_20 : decode b_Dr_append 20 = .ok (.iload_n 1, 1) := by decide +kernel
theorem d_Dr_append_21 : decode b_Dr_append 21 = .ok (.dup2, 1) := by decide +kernel
theorem d_Dr_append_22 : decode b_Dr_append 22 = .ok (.iaload, 1) := by decide +kernel
theorem d_Dr_append_23 : decode b_Dr_append 23 = .ok (.iconst 1, 1) := by decide +kernel
theorem d_Dr_append_24 : decode b_Dr_append 24 = .ok (.iadd, 1) := by decide +kernel
theorem d_Dr_append_25 : decode b_Dr_append 25 = .ok (.iastore, 1) := by decide +kernel
theorem d_Dr_append_26 : decode b_Dr_append 26 = .ok (.aload_n 0, 1) := by decide +kernel
theorem d_Dr_append_27 : decode b_Dr_append 27 = .ok (.getfield 15, 3) := by decide +kernel
theorem d_Dr_append_30 : decode b_Dr_append 30 = .ok (.iload_n 1, 1) := by decide +kernel
theorem d_Dr_append_31 : decode b_Dr_append 31 = .ok (.iaload, 1) := by decide +kernel
theorem d_Dr_append_32 : decode b_Dr_append 32 = .ok (.ireturn, 1) := by decide +kernel
theorem d_Dr_ballCount_0 : decode b_Dr_ballCount 0 = .ok (.iconst 0, 1) := by decide +kernel
theorem d_Dr_ballCount_1 : decode b_Dr_ballCount 1 = .ok (.istore_n 1, 1) := by decide +kernel
theorem d_Dr_ballCount_2 : decode b_Dr_ballCount 2 = .ok (.iconst 0, 1) := by decide +kernel
theorem d_Dr_ballCount_3 : decode b_Dr_ballCount 3 = .ok (.istore_n 2, 1) := by decide +kernel
theorem d_Dr_ballCount_4 : decode b_Dr_ballCount 4 = .ok (.iload_n 2, 1) := by decide +kernel
theorem d_Dr_ballCount_5 : decode b_Dr_ballCount 5 = .ok (.aload_n 0, 1) := by decide +kernel
theorem d_Dr_ballCount_6 : decode b_Dr_ballCount 6 = .ok (.getfield 28, 3) := by decide +kernel
theorem d_Dr_ballCount_9 : decode b_Dr_ballCount 9 = .ok (.if_icmp .ge 36, 3) := by decide +kernel
theorem d_Dr_ballCount_12 : decode b_Dr_ballCount 12 = .ok (.iconst 0, 1) := by decide +kernel
theorem d_Dr_ballCount_13 : decode b_Dr_ballCount 13 = .ok (.istore_n 3, 1) := by decide +kernel
theorem d_Dr_ballCount_14 : decode b_Dr_ballCount 14 = .ok (.iload_n 3, 1) := by decide +kernel
theorem d_Dr_ballCount_15 : decode b_Dr_ballCount 15 = .ok (.aload_n 0, 1) := by decide +kernel
theorem d_Dr_ballCount_16 : decode b_Dr_ballCount 16 = .ok (.getfield 15, 3) := by decide +kernel
theorem d_Dr_ballCount_19 : decode b_Dr_ballCount 19 = .ok (.iload_n 2, 1) := by decide +kernel
theorem d_Dr_ballCount_20 : decode b_Dr_ballCount 20 = .ok (.iaload, 1) := by decide +kernel
theorem d_Dr_ballCount_21 : decode b_Dr_ballCount 21 = .ok (.if_icmp .ge 18, 3) := by decide +kernel
theorem d_Dr_ballCount_24 : decode b_Dr_ballCount 24 = .ok (.iload_n 1, 1) := by decide +kernel
theorem d_Dr_ballCount_25 : decode b_Dr_ballCount 25 = .ok (.aload_n 0, 1) := by decide +kernel
theorem d_Dr_ballCount_26 : decode b_Dr_ballCount 26 = .ok (.iload_n 2, 1) := by decide +kernel
theorem d_Dr_ballCount_27 : decode b_Dr_ballCount 27 = .ok (.iload_n 3, 1) := by decide +kernel
theorem d_Dr_ballCount_28 : decode b_Dr_ballCount 28 = .ok (.invokevirtual 69, 3) := by decide +kernel
theorem d_Dr_ballCount_31 : decode b_Dr_ballCount 31 = .ok (.iadd, 1) := by decide +kernel
theorem d_Dr_ballCount_32 : decode b_Dr_ballCount 32 = .ok (.istore_n 1, 1) := by decide +kernel
theorem d_Dr_ballCount_33 : decode b_Dr_ballCount 33 = .ok (.iinc 3 1, 3) := by decide +kernel
theorem d_Dr_ballCount_36 : decode b_Dr_ballCount 36 = .ok (.goto (-22), 3) := by decide +kernel
theorem d_Dr_ballCount_39 : decode b_Dr_ballCount 39 = .ok (.iinc 2 1, 3) := by decide +kernel
theorem d_Dr_ballCount_42 : decode b_Dr_ballCount 42 = .ok (.goto (-38), 3) := by decide +kernel
theorem d_Dr_ballCount_45 : decode b_Dr_ballCount 45 = .ok (.aload_n 0, 1) := by decide +kernel
theorem d_Dr_ballCount_46 : decode b_Dr_ballCount 46 = .ok (.getfield 28, 3) := by decide +kernel
theorem d_Dr_ballCount_49 : decode b_Dr_ballCount 49 = .ok (.iconst 1, 1) := by decide +kernel
theorem d_Dr_ballCount_50 : decode b_Dr_ballCount 50 = .ok (.if_icmp .ge 7, 3) := by decide +kernel
theorem d_Dr_ballCount_53 : decode b_Dr_ballCount 53 = .ok (.iconst 0, 1) := by decide +kernel
theorem d_Dr_ballCount_54 : decode b_Dr_ballCount 54 = .ok (.goto 9, 3) := by decide +kernel
theorem d_Dr_ballCount_57 : decode b_Dr_ballCount 57 = .ok (.iload_n 1, 1) := by decide +kernel
theorem d_Dr_ballCount_58 : decode b_Dr_ballCount 58 = .ok (.aload_n 0, 1) := by decide +kernel
theorem d_Dr_ballCount_59 : decode b_Dr_ballCount 59 = .ok (.getfield 28, 3) := by decide +kernel
theorem d_Dr_ballCount_62 : decode b_Dr_ballCount 62 = .ok (.idiv, 1) := by decide +kernel
theorem d_Dr_ballCount_63 : decode b_Dr_ballCount 63 = .ok (.ireturn, 1) := by decide +kernel
theorem d_Dr_stateBefore_0 : decode b_Dr_stateBefore 0 = .ok (.iconst 0, 1) := by decide +kernel
theorem d_Dr_stateBefore_1 : decode b_Dr_stateBefore 1 = .ok (.istore_n 2, 1) := by decide +kernel
theorem d_Dr_stateBefore_2 : decode b_Dr_stateBefore 2 = .ok (.iconst 1, 1) := by decide +kernel
theorem d_Dr_stateBefore_3 : decode b_Dr_stateBefore 3 = .ok (.istore_n 3, 1) := by decide +kernel
theorem d_Dr_stateBefore_4 : decode b_Dr_stateBefore 4 = .ok (.iload_n 3, 1) := by decide +kernel
theorem d_Dr_stateBefore_5 : decode b_Dr_stateBefore 5 = .ok (.bipush 9, 2) := by decide +kernel
theorem d_Dr_stateBefore_7 : decode b_Dr_stateBefore 7 = .ok (.if_icmp .gt 32, 3) := by decide +kernel
theorem d_Dr_stateBefore_10 : decode b_Dr_stateBefore 10 = .ok (.aload_n 0, 1) := by decide +kernel
theorem d_Dr_stateBefore_11 : decode b_Dr_stateBefore 11 = .ok (.iload_n 1, 1) := by decide +kernel
theorem d_Dr_stateBefore_12 : decode b_Dr_stateBefore 12 = .ok (.iload_n 3, 1) := by decide +kernel
theorem d_Dr_stateBefore_13 : decode b_Dr_stateBefore 13 = .ok (.isub, 1) := by decide +kernel
theorem d_Dr_stateBefore_14 : decode b_Dr_stateBefore 14 = .ok (.invokevirtual 75, 3) := by decide +kernel
theorem d_Dr_stateBefore_17 : decode b_Dr_stateBefore 17 = .ok (.iload_n 3, 1) := by decide +kernel
theorem d_Dr_stateBefore_18 : decode b_Dr_stateBefore 18 = .ok (.isub, 1) := by decide +kernel
theorem d_Dr_stateBefore_19 : decode b_Dr_stateBefore 19 = .ok (.istore 4, 2) := by decide +kernel
theorem d_Dr_stateBefore_21 : decode b_Dr_stateBefore 21 = .ok (.iload 4, 2) := by decide +kernel
theorem d_Dr_stateBefore_23 : decode b_Dr_stateBefore 23 = .ok (.ifCond .lt 10, 3) := by decide +kernel
theorem d_Dr_stateBefore_26 : decode b_Dr_stateBefore 26 = .ok (.iload_n 2, 1) := by decide +kernel
theorem d_Dr_stateBefore_27 : decode b_Dr_stateBefore 27 = .ok (.iconst 1, 1) := by decide +kernel
theorem d_Dr_stateBefore_28 : decode b_Dr_stateBefore 28 = .ok (.iload 4, 2) := by decide +kernel
theorem d_Dr_stateBefore_30 : decode b_Dr_stateBefore 30 = .ok (.ishl, 1) := by decide +kernel
theorem d_Dr_stateBefore_31 : decode b_Dr_stateBefore 31 = .ok (.ior, 1) := by decide +kernel
theorem d_Dr_stateBefore_32 : decode b_Dr_stateBefore 32 = .ok (.istore_n 2, 1) := by decide +kernel
theorem d_Dr_stateBefore_33 : decode b_Dr_stateBefore 33 = .ok (.iinc 3 1, 3) := by decide +kernel
theorem d_Dr_stateBefore_36 : decode b_Dr_stateBefore 36 = .ok (.goto (-32), 3) := by decide +kernel
theorem d_Dr_stateBefore_39 : decode b_Dr_stateBefore 39 = .ok (.iload_n 2, 1) := by decide +kernel
theorem d_Dr_stateBefore_40 : decode b_Dr_stateBefore 40 = .ok (.ireturn, 1) := by decide +kernel
theorem d_Dr_swapLandings_0 : decode b_Dr_swapLandings 0 = .ok (.aload_n 0, 1) := by decide +kernel
theorem d_Dr_swapLandings_1 : decode b_Dr_swapLandings 1 = .ok (.iload_n 2, 1) := by decide +kernel
theorem d_Dr_swapLandings_2 : decode b_Dr_swapLandings 2 = .ok (.invokevirtual 75, 3) := by decide +kernel
theorem d_Dr_swapLandings_5 : decode b_Dr_swapLandings 5 = .ok (.iload_n 2, 1) := by decide +kernel
theorem d_Dr_swapLandings_6 : decode b_Dr_swapLandings 6 = .ok (.iadd, 1) := by decide +kernel
theorem d_Dr_swapLandings_7 : decode b_Dr_swapLandings 7 = .ok (.iload_n 1, 1) := by decide +kernel
theorem d_Dr_swapLandings_8 : decode b_Dr_swapLandings 8 = .ok (.isub, 1) := by decide +kernel
theorem d_Dr_swapLandings_9 : decode b_Dr_swapLandings 9 = .ok (.istore_n 3, 1) := by decide +kernel
theorem d_Dr_swapLandings_10 : decode b_Dr_swapLandings 10 = .ok (.aload_n 0, 1) := by decide +kernel
theorem d_Dr_swapLandings_11 : decode b_Dr_swapLandings 11 = .ok (.iload_n 1, 1) := by decide +kernel
theorem d_Dr_swapLandings_12 : decode b_Dr_swapLandings 12 = .ok (.invokevirtual 75, 3) := by decide +kernel
theorem d_Dr_swapLandings_15 : decode b_Dr_swapLandings 15 = .ok (.iload_n 1, 1) := by decide +kernel
theorem d_Dr_swapLandings_16 : decode b_Dr_swapLandings 16 = .ok (.iadd, 1) := by decide +kernel
theorem d_Dr_swapLandings_17 : decode b_Dr_swapLandings 17 = .ok (.iload_n 2, 1) := by decide +kernel
theorem d_Dr_swapLandings_18 : decode b_Dr_swapLandings 18 = .ok (.isub, 1) := by decide +kernel
theorem d_Dr_swapLandings_19 : decode b_Dr_swapLandings 19 = .ok (.istore 4, 2) := by decide +kernel
theorem d_Dr_swapLandings_21 : decode b_Dr_swapLandings 21 = .ok (.iload_n 3, 1) := by decide +kernel
theorem d_Dr_swapLandings_22 : decode b_Dr_swapLandings 22 = .ok (.ifCond .lt 21, 3) := by decide +kernel
theorem d_Dr_swapLandings_25 : decode b_Dr_swapLandings 25 = .ok (.iload_n 3, 1) := by decide +kernel
theorem d_Dr_swapLandings_26 : decode b_Dr_swapLandings 26 = .ok (.bipush 9, 2) := by decide +kernel
theorem d_Dr_swapLandings_28 : decode b_Dr_swapLandings 28 = .ok (.if_icmp .gt 15, 3) := by decide +kernel
theorem d_Dr_swapLandings_31 : decode b_Dr_swapLandings 31 = .ok (.iload 4, 2) := by decide +kernel
theorem d_Dr_swapLandings_33 : decode b_Dr_swapLandings 33 = .ok (.ifCond .lt 10, 3) := by decide +kernel
theorem d_Dr_swapLandings_36 : decode b_Dr_swapLandings 36 = .ok (.iload 4, 2) := by decide +kernel
theorem d_Dr_swapLandings_38 : decode b_Dr_swapLandings 38 = .ok (.bipush 9, 2) := by decide +kernel
theorem d_Dr_swapLandings_40 : decode b_Dr_swapLandings 40 = .ok (.if_icmp .le 5, 3) := by decide +kernel
theorem d_Dr_swapLandings_43 : decode b_Dr_swapLandings 43 = .ok (.iconst 0, 1) := by decide +kernel
theorem d_Dr_swapLandings_44 : decode b_Dr_swapLandings 44 = .ok (.ireturn, 1) := by decide +kernel
theorem d_Dr_swapLandings_45 : decode b_Dr_swapLandings 45 = .ok (.aload_n 0, 1) := by decide +kernel
theorem d_Dr_swapLandings_46 : decode b_Dr_swapLandings 46 = .ok (.iload_n 1, 1) := by decide +kernel
theorem d_Dr_swapLandings_47 : decode b_Dr_swapLandings 47 = .ok (.iload_n 3, 1) := by decide +kernel
theorem d_Dr_swapLandings_48 : decode b_Dr_swapLandings 48 = .ok (.iconst 0, 1) := by decide +kernel
theorem d_Dr_swapLandings_49 : decode b_Dr_swapLandings 49 = .ok (.invokevirtual 88, 3) := by decide +kernel
theorem d_Dr_swapLandings_52 : decode b_Dr_swapLandings 52 = .ok (.aload_n 0, 1) := by decide +kernel
theorem d_Dr_swapLandings_53 : decode b_Dr_swapLandings 53 = .ok (.iload_n 2, 1) := by decide +kernel
theorem d_Dr_swapLandings_54 : decode b_Dr_swapLandings 54 = .ok (.iload 4, 2) := by decide +kernel
theorem d_Dr_swapLandings_56 : decode b_Dr_swapLandings 56 = .ok (.iconst 0, 1) := by decide +kernel
theorem d_Dr_swapLandings_57 : decode b_Dr_swapLandings 57 = .ok (.invokevirtual 88, 3) := by decide +kernel
theorem d_Dr_swapLandings_60 : decode b_Dr_swapLandings 60 = .ok (.iconst 1, 1) := by decide +kernel
theorem d_Dr_swapLandings_61 : decode b_Dr_swapLandings 61 = .ok (.ireturn, 1) := by decide +kernel
theorem d_Dr_leastRotation_0 : decode b_Dr_leastRotation 0 = .ok (.iconst 0, 1) := by decide +kernel
theorem d_Dr_leastRotation_1 : decode b_Dr_leastRotation 1 = .ok (.istore_n 1, 1) := by decide +kernel
theorem d_Dr_leastRotation_2 : decode b_Dr_leastRotation 2 = .ok (.iconst 1, 1) := by decide +kernel
theorem d_Dr_leastRotation_3 : decode b_Dr_leastRotation 3 = .ok (.istore_n 2, 1) := by decide +kernel
theorem d_Dr_leastRotation_4 : decode b_Dr_leastRotation 4 = .ok (.iload_n 2, 1) := by decide +kernel
theorem d_Dr_leastRotation_5 : decode b_Dr_leastRotation 5 = .ok (.aload_n 0, 1) := by decide +kernel
theorem d_Dr_leastRotation_6 : decode b_Dr_leastRotation 6 = .ok (.getfield 28, 3) := by decide +kernel
theorem d_Dr_leastRotation_9 : decode b_Dr_leastRotation 9 = .ok (.if_icmp .ge 20, 3) := by decide +kernel
theorem d_Dr_leastRotation_12 : decode b_Dr_leastRotation 12 = .ok (.aload_n 0, 1) := by decide +kernel
theorem d_Dr_leastRotation_13 : decode b_Dr_leastRotation 13 = .ok (.iload_n 2, 1) := by decide +kernel
theorem d_Dr_leastRotation_14 : decode b_Dr_leastRotation 14 = .ok (.iload_n 1, 1) := by decide +kernel
theorem d_Dr_leastRotation_15 : decode b_Dr_leastRotation 15 = .ok (.invokevirtual 92, 3) := by decide +kernel
theorem d_Dr_leastRotation_18 : decode b_Dr_leastRotation 18 = .ok (.ifCond .eq 5, 3) := by decide +kernel
theorem d_Dr_leastRotation_21 : decode b_Dr_leastRotation 21 = .ok (.iload_n 2, 1) := by decide +kernel
theorem d_Dr_leastRotation_22 : decode b_Dr_leastRotation 22 = .ok (.istore_n 1, 1) := by decide +kernel
theorem d_Dr_leastRotation_23 : decode b_Dr_leastRotation 23 = .ok (.iinc 2 1, 3) := by decide +kernel
theorem d_Dr_leastRotation_26 : decode b_Dr_leastRotation 26 = .ok (.goto (-22), 3) := by decide +kernel
theorem d_Dr_leastRotation_29 : decode b_Dr_leastRotation 29 = .ok (.iload_n 1, 1) := by decide +kernel
theorem d_Dr_leastRotation_30 : decode b_Dr_leastRotation 30 = .ok (.ireturn, 1) := by decide +kernel
theorem d_Dr_isRotationLess_0 : decode b_Dr_isRotationLess 0 = .ok (.iconst 0, 1) := by decide +kernel
theorem d_Dr_isRotationLess_1 : decode b_Dr_isRotationLess 1 = .ok (.istore_n 3, 1) := by decide +kernel
theorem d_Dr_isRotationLess_2 : decode b_Dr_isRotationLess 2 = .ok (.iload_n 3, 1) := by decide +kernel
theorem d_Dr_isRotationLess_3 : decode b_Dr_isRotationLess 3 = .ok (.aload_n 0, 1) := by decide +kernel
theorem d_Dr_isRotationLess_4 : decode b_Dr_isRotationLess 4 = .ok (.getfield 28, 3) := by decide +kernel
theorem d_Dr_isRotationLess_7 : decode b_Dr_isRotationLess 7 = .ok (.if_icmp .ge 42, 3) := by decide +kernel
theorem d_Dr_isRotationLess_10 : decode b_Dr_isRotationLess 10 = .ok (.aload_n 0, 1) := by decide +kernel
theorem d_Dr_isRotationLess_11 : decode b_Dr_isRotationLess 11 = .ok (.iload_n 1, 1) := by decide +kernel
theorem d_Dr_isRotationLess_12 : decode b_Dr_isRotationLess 12 = .ok (.iload_n 3, 1) := by decide +kernel
theorem d_Dr_isRotationLess_13 : decode b_Dr_isRotationLess 13 = .ok (.iadd, 1) := by decide +kernel
theorem d_Dr_isRotationLess_14 : decode b_Dr_isRotationLess 14 = .ok (.invokevirtual 75, 3) := by decide +kernel
theorem d_Dr_isRotationLess_17 : decode b_Dr_isRotationLess 17 = .ok (.aload_n 0, 1) := by decide +kernel
theorem d_Dr_isRotationLess_18 : decode b_Dr_isRotationLess 18 = .ok (.iload_n 2, 1) := by decide +kernel
theorem d_Dr_isRotationLess_19 : decode b_Dr_isRotationLess 19 = .ok (.iload_n 3, 1) := by decide +kernel
theorem d_Dr_isRotationLess_20 : decode b_Dr_isRotationLess 20 = .ok (.iadd, 1) := by decide +kernel
theorem d_Dr_isRotationLess_21 : decode b_Dr_isRotationLess 21 = .ok (.invokevirtual 75, 3) := by decide +kernel
theorem d_Dr_isRotationLess_24 : decode b_Dr_isRotationLess 24 = .ok (.isub, 1) := by decide +kernel
theorem d_Dr_isRotationLess_25 : decode b_Dr_isRotationLess 25 = .ok (.istore 4, 2) := by decide +kernel
theorem d_Dr_isRotationLess_27 : decode b_Dr_isRotationLess 27 = .ok (.iload 4, 2) := by decide +kernel
theorem d_Dr_isRotationLess_29 : decode b_Dr_isRotationLess 29 = .ok (.ifCond .eq 14, 3) := by decide +kernel
theorem d_Dr_isRotationLess_32 : decode b_Dr_isRotationLess 32 = .ok (.iload 4, 2) := by decide +kernel
theorem d_Dr_isRotationLess_34 : decode b_Dr_isRotationLess 34 = .ok (.ifCond .ge 7, 3) := by decide +kernel
theorem d_Dr_isRotationLess_37 : decode b_Dr_isRotationLess 37 = .ok (.iconst 1, 1) := by decide +kernel
theorem d_Dr_isRotationLess_38 : decode b_Dr_isRotationLess 38 = .ok (.goto 4, 3) := by decide +kernel
theorem d_Dr_isRotationLess_41 : decode b_Dr_isRotationLess 41 = .ok (.iconst 0, 1) := by decide +kernel
theorem d_Dr_isRotationLess_42 : decode b_Dr_isRotationLess 42 = .ok (.ireturn, 1) := by decide +kernel
theorem d_Dr_isRotationLess_43 : decode b_Dr_isRotationLess 43 = .ok (.iinc 3 1, 3) := by decide +kernel
theorem d_Dr_isRotationLess_46 : decode b_Dr_isRotationLess 46 = .ok (.goto (-44), 3) := by decide +kernel
theorem d_Dr_isRotationLess_49 : decode b_Dr_isRotationLess 49 = .ok (.iconst 0, 1) := by decide +kernel
theorem d_Dr_isRotationLess_50 : decode b_Dr_isRotationLess 50 = .ok (.ireturn, 1) := by decide +kernel
theorem d_Dr_rotateTo_0 : decode b_Dr_rotateTo 0 = .ok (.iconst 0, 1) := by decide +kernel
theorem d_Dr_rotateTo_1 : decode b_Dr_rotateTo 1 = .ok (.istore_n 2, 1) := by decide +kernel
theorem d_Dr_rotateTo_2 : decode b_Dr_rotateTo 2 = .ok (.iload_n 2, 1) := by decide +kernel
theorem d_Dr_rotateTo_3 : decode b_Dr_rotateTo 3 = .ok (.aload_n 0, 1) := by decide +kernel
theorem d_Dr_rotateTo_4 : decode b_Dr_rotateTo 4 = .ok (.getfield 28, 3) := by decide +kernel
theorem d_Dr_rotateTo_7 : decode b_Dr_rotateTo 7 = .ok (.if_icmp .ge 22, 3) := by decide +kernel
theorem d_Dr_rotateTo_10 : decode b_Dr_rotateTo 10 = .ok (.aload_n 0, 1) := by decide +kernel
theorem d_Dr_rotateTo_11 : decode b_Dr_rotateTo 11 = .ok (.getfield 21, 3) := by decide +kernel
theorem d_Dr_rotateTo_14 : decode b_Dr_rotateTo 14 = .ok (.iload_n 2, 1) := by decide +kernel
theorem d_Dr_rotateTo_15 : decode b_Dr_rotateTo 15 = .ok (.aload_n 0, 1) := by decide +kernel
theorem d_Dr_rotateTo_16 : decode b_Dr_rotateTo 16 = .ok (.iload_n 1, 1) := by decide +kernel
theorem d_Dr_rotateTo_17 : decode b_Dr_rotateTo 17 = .ok (.iload_n 2, 1) := by decide +kernel
theorem d_Dr_rotateTo_18 : decode b_Dr_rotateTo 18 = .ok (.iadd, 1) := by decide +kernel
theorem d_Dr_rotateTo_19 : decode b_Dr_rotateTo 19 = .ok (.invokevirtual 75, 3) := by decide +kernel
theorem d_Dr_rotateTo_22 : decode b_Dr_rotateTo 22 = .ok (.iastore, 1) := by decide +kernel
theorem d_Dr_rotateTo_23 : decode b_Dr_rotateTo 23 = .ok (.iinc 2 1, 3) := by decide +kernel
theorem d_Dr_rotateTo_26 : decode b_Dr_rotateTo 26 = .ok (.goto (-24), 3) := by decide +kernel
theorem d_Dr_rotateTo_29 : decode b_Dr_rotateTo 29 = .ok (.iconst 0, 1) := by decide +kernel
theorem d_Dr_rotateTo_30 : decode b_Dr_rotateTo 30 = .ok (.istore_n 2, 1) := by decide +kernel
theorem d_Dr_rotateTo_31 : decode b_Dr_rotateTo 31 = .ok (.iload_n 2, 1) := by decide +kernel
theorem d_Dr_rotateTo_32 : decode b_Dr_rotateTo 32 = .ok (.aload_n 0, 1) := by decide +kernel
theorem d_Dr_rotateTo_33 : decode b_Dr_rotateTo 33 = .ok (.getfield 28, 3) := by decide +kernel
theorem d_Dr_rotateTo_36 : decode b_Dr_rotateTo 36 = .ok (.if_icmp .ge 21, 3) := by decide +kernel
theorem d_Dr_rotateTo_39 : decode b_Dr_rotateTo 39 = .ok (.aload_n 0, 1) := by decide +kernel
theorem d_Dr_rotateTo_40 : decode b_Dr_rotateTo 40 = .ok (.iload_n 2, 1) := by decide +kernel
theorem d_Dr_rotateTo_41 : decode b_Dr_rotateTo 41 = .ok (.aload_n 0, 1) := by decide +kernel
theorem d_Dr_rotateTo_42 : decode b_Dr_rotateTo 42 = .ok (.getfield 21, 3) := by decide +kernel
theorem d_Dr_rotateTo_45 : decode b_Dr_rotateTo 45 = .ok (.iload_n 2, 1) := by decide +kernel
theorem d_Dr_rotateTo_46 : decode b_Dr_rotateTo 46 = .ok (.iaload, 1) := by decide +kernel
theorem d_Dr_rotateTo_47 : decode b_Dr_rotateTo 47 = .ok (.iconst 0, 1) := by decide +kernel
theorem d_Dr_rotateTo_48 : decode b_Dr_rotateTo 48 = .ok (.invokevirtual 88, 3) := by decide +kernel
theorem d_Dr_rotateTo_51 : decode b_Dr_rotateTo 51 = .ok (.iinc 2 1, 3) := by decide +kernel
theorem d_Dr_rotateTo_54 : decode b_Dr_rotateTo 54 = .ok (.goto (-23), 3) := by decide +kernel
theorem d_Dr_rotateTo_57 : decode b_Dr_rotateTo 57 = .ok (.return_, 1) := by decide +kernel
theorem d_Dr_crossingOf_0 : decode b_Dr_crossingOf 0 = .ok (.aload_n 0, 1) := by decide +kernel
theorem d_Dr_crossingOf_1 : decode b_Dr_crossingOf 1 = .ok (.getfield 18, 3) := by decide +kernel
theorem d_Dr_crossingOf_4 : decode b_Dr_crossingOf 4 = .ok (.iload_n 1, 1) := by decide +kernel
theorem d_Dr_crossingOf_5 : decode b_Dr_crossingOf 5 = .ok (.iaload, 1) := by decide +kernel
theorem d_Dr_crossingOf_6 : decode b_Dr_crossingOf 6 = .ok (.ireturn, 1) := by decide +kernel
theorem d_Dr_copyFrom_0 : decode b_Dr_copyFrom 0 = .ok (.aload_n 0, 1) := by decide +kernel
theorem d_Dr_copyFrom_1 : decode b_Dr_copyFrom 1 = .ok (.aload_n 1, 1) := by decide +kernel
theorem d_Dr_copyFrom_2 : decode b_Dr_copyFrom 2 = .ok (.getfield 24, 3) := by decide +kernel
theorem d_Dr_copyFrom_5 : decode b_Dr_copyFrom 5 = .ok (.putfield 24, 3) := by decide +kernel
theorem d_Dr_copyFrom_8 : decode b_Dr_copyFrom 8 = .ok (.aload_n 0, 1) := by decide +kernel
theorem d_Dr_copyFrom_9 : decode b_Dr_copyFrom 9 = .ok (.aload_n 1, 1) := by decide +kernel
theorem d_Dr_copyFrom_10 : decode b_Dr_copyFrom 10 = .ok (.getfield 28, 3) := by decide +kernel
theorem d_Dr_copyFrom_13 : decode b_Dr_copyFrom 13 = .ok (.putfield 28, 3) := by decide +kernel
theorem d_Dr_copyFrom_16 : decode b_Dr_copyFrom 16 = .ok (.aload_n 1, 1) := by decide +kernel
theorem d_Dr_copyFrom_17 : decode b_Dr_copyFrom 17 = .ok (.getfield 9, 3) := by decide +kernel
theorem d_Dr_copyFrom_20 : decode b_Dr_copyFrom 20 = .ok (.iconst 0, 1) := by decide +kernel
theorem d_Dr_copyFrom_21 : decode b_Dr_copyFrom 21 = .ok (.aload_n 0, 1) := by decide +kernel
theorem d_Dr_copyFrom_22 : decode b_Dr_copyFrom 22 = .ok (.getfield 9, 3) := by decide +kernel
theorem d_Dr_copyFrom_25 : decode b_Dr_copyFrom 25 = .ok (.iconst 0, 1) := by decide +kernel
theorem d_Dr_copyFrom_26 : decode b_Dr_copyFrom 26 = .ok (.aload_n 0, 1) := by decide +kernel
theorem d_Dr_copyFrom_27 : decode b_Dr_copyFrom 27 = .ok (.getfield 9, 3) := by decide +kernel
theorem d_Dr_copyFrom_30 : decode b_Dr_copyFrom 30 = .ok (.arraylength, 1) := by decide +kernel
theorem d_Dr_copyFrom_31 : decode b_Dr_copyFrom 31 = .ok (.invokestatic 37, 3) := by decide +kernel
theorem d_Dr_copyFrom_34 : decode b_Dr_copyFrom 34 = .ok (.aload_n 1, 1) := by decide +kernel
theorem d_Dr_copyFrom_35 : decode b_Dr_copyFrom 35 = .ok (.getfield 15, 3) := by decide +kernel
theorem d_Dr_copyFrom_38 : decode b_Dr_copyFrom 38 = .ok (.iconst 0, 1) := by decide +kernel
theorem d_Dr_copyFrom_39 : decode b_Dr_copyFrom 39 = .ok (.aload_n 0, 1) := by decide +kernel
theorem d_Dr_copyFrom_40 : decode b_Dr_copyFrom 40 = .ok (.getfield 15, 3) := by decide +kernel
theorem d_Dr_copyFrom_43 : decode b_Dr_copyFrom 43 = .ok (.iconst 0, 1) := by decide +kernel
theorem d_Dr_copyFrom_44 : decode b_Dr_copyFrom 44 = .ok (.aload_n 0, 1) := by decide +kernel
theorem d_Dr_copyFrom_45 : decode b_Dr_copyFrom 45 = .ok (.getfield 15, 3) := by decide +kernel
theorem d_Dr_copyFrom_48 : decode b_Dr_copyFrom 48 = .ok (.arraylength, 1) := by decide +kernel
theorem d_Dr_copyFrom_49 : decode b_Dr_copyFrom 49 = .ok (.invokestatic 37, 3) := by decide +kernel
theorem d_Dr_copyFrom_52 : decode b_Dr_copyFrom 52 = .ok (.aload_n 1, 1) := by decide +kernel
theorem d_Dr_copyFrom_53 : decode b_Dr_copyFrom 53 = .ok (.getfield 18, 3) := by decide +kernel
theorem d_Dr_copyFrom_56 : decode b_Dr_copyFrom 56 = .ok (.iconst 0, 1) := by decide +kernel
theorem d_Dr_copyFrom_57 : decode b_Dr_copyFrom 57 = .ok (.aload_n 0, 1) := by decide +kernel
theorem d_Dr_copyFrom_58 : decode b_Dr_copyFrom 58 = .ok (.getfield 18, 3) := by decide +kernel
theorem d_Dr_copyFrom_61 : decode b_Dr_copyFrom 61 = .ok (.iconst 0, 1) := by decide +kernel
theorem d_Dr_copyFrom_62 : decode b_Dr_copyFrom 62 = .ok (.aload_n 0, 1) := by decide +kernel
theorem d_Dr_copyFrom_63 : decode b_Dr_copyFrom 63 = .ok (.getfield 18, 3) := by decide +kernel
theorem d_Dr_copyFrom_66 : decode b_Dr_copyFrom 66 = .ok (.arraylength, 1) := by decide +kernel
theorem d_Dr_copyFrom_67 : decode b_Dr_copyFrom 67 = .ok (.invokestatic 37, 3) := by decide +kernel
theorem d_Dr_copyFrom_70 : decode b_Dr_copyFrom 70 = .ok (.return_, 1) := by decide +kernel
theorem d_Dr_isPlainAndValid_0 : decode b_Dr_isPlainAndValid 0 = .ok (.aload_n 0, 1) := by decide +kernel
theorem d_Dr_isPlainAndValid_1 : decode b_Dr_isPlainAndValid 1 = .ok (.getfield 24, 3) := by decide +kernel
theorem d_Dr_isPlainAndValid_4 : decode b_Dr_isPlainAndValid 4 = .ok (.ifCond .ne 14, 3) := by decide +kernel
theorem d_Dr_isPlainAndValid_7 : decode b_Dr_isPlainAndValid 7 = .ok (.aload_n 0, 1) := by decide +kernel
theorem d_Dr_isPlainAndValid_8 : decode b_Dr_isPlainAndValid 8 = .ok (.invokevirtual 59, 3) := by decide +kernel
theorem d_Dr_isPlainAndValid_11 : decode b_Dr_isPlainAndValid 11 = .ok (.ifCond .eq 7, 3) := by decide +kernel
theorem d_Dr_isPlainAndValid_14 : decode b_Dr_isPlainAndValid 14 = .ok (.iconst 1, 1) := by decide +kernel
theorem d_Dr_isPlainAndValid_15 : decode b_Dr_isPlainAndValid 15 = .ok (.goto 4, 3) := by decide +kernel
theorem d_Dr_isPlainAndValid_18 : decode b_Dr_isPlainAndValid 18 = .ok (.iconst 0, 1) := by decide +kernel
theorem d_Dr_isPlainAndValid_19 : decode b_Dr_isPlainAndValid 19 = .ok (.ireturn, 1) := by decide +kernel
theorem d_Dr_siteOfState_0 : decode b_Dr_siteOfState 0 = .ok (.iconst 0, 1) := by decide +kernel
theorem d_Dr_siteOfState_1 : decode b_Dr_siteOfState 1 = .ok (.istore_n 2, 1) := by decide +kernel
theorem d_Dr_siteOfState_2 : decode b_Dr_siteOfState 2 = .ok (.iload_n 2, 1) := by decide +kernel
theorem d_Dr_siteOfState_3 : decode b_Dr_siteOfState 3 = .ok (.aload_n 0, 1) := by decide +kernel
theorem d_Dr_siteOfState_4 : decode b_Dr_siteOfState 4 = .ok (.getfield 28, 3) := by decide +kernel
theorem d_Dr_siteOfState_7 : decode b_Dr_siteOfState 7 = .ok (.if_icmp .ge 20, 3) := by decide +kernel
theorem d_Dr_siteOfState_10 : decode b_Dr_siteOfState 10 = .ok (.aload_n 0, 1) := by decide +kernel
theorem d_Dr_siteOfState_11 : decode b_Dr_siteOfState 11 = .ok (.iload_n 2, 1) := by decide +kernel
theorem d_Dr_siteOfState_12 : decode b_Dr_siteOfState 12 = .ok (.invokevirtual 79, 3) := by decide +kernel
theorem d_Dr_siteOfState_15 : decode b_Dr_siteOfState 15 = .ok (.iload_n 1, 1) := by decide +kernel
theorem d_Dr_siteOfState_16 : decode b_Dr_siteOfState 16 = .ok (.if_icmp .ne 5, 3) := by decide +kernel
theorem d_Dr_siteOfState_19 : decode b_Dr_siteOfState 19 = .ok (.iload_n 2, 1) := by decide +kernel
theorem d_Dr_siteOfState_20 : decode b_Dr_siteOfState 20 = .ok (.ireturn, 1) := by decide +kernel
theorem d_Dr_siteOfState_21 : decode b_Dr_siteOfState 21 = .ok (.iinc 2 1, 3) := by decide +kernel
theorem d_Dr_siteOfState_24 : decode b_Dr_siteOfState 24 = .ok (.goto (-22), 3) := by decide +kernel
theorem d_Dr_siteOfState_27 : decode b_Dr_siteOfState 27 = .ok (.iconst (-1), 1) := by decide +kernel
theorem d_Dr_siteOfState_28 : decode b_Dr_siteOfState 28 = .ok (.ireturn, 1) := by decide +kernel
theorem d_Dr_isCycle_0 : decode b_Dr_isCycle 0 = .ok (.aload_n 0, 1) := by decide +kernel
theorem d_Dr_isCycle_1 : decode b_Dr_isCycle 1 = .ok (.invokevirtual 82, 3) := by decide +kernel
theorem d_Dr_isCycle_4 : decode b_Dr_isCycle 4 = .ok (.ifCond .eq 5, 3) := by decide +kernel
theorem d_Dr_isCycle_7 : decode b_Dr_isCycle 7 = .ok (.iconst 0, 1) := by decide +kernel
theorem d_Dr_isCycle_8 : decode b_Dr_isCycle 8 = .ok (.ireturn, 1) := by decide +kernel
theorem d_Dr_isCycle_9 : decode b_Dr_isCycle 9 = .ok (.iconst 1, 1) := by decide +kernel
theorem d_Dr_isCycle_10 : decode b_Dr_isCycle 10 = .ok (.istore_n 1, 1) := by decide +kernel
theorem d_Dr_isCycle_11 : decode b_Dr_isCycle 11 = .ok (.iload_n 1, 1) := by decide +kernel
theorem d_Dr_isCycle_12 : decode b_Dr_isCycle 12 = .ok (.aload_n 0, 1) := by decide +kernel
theorem d_Dr_isCycle_13 : decode b_Dr_isCycle 13 = .ok (.getfield 28, 3) := by decide +kernel
theorem d_Dr_isCycle_16 : decode b_Dr_isCycle 16 = .ok (.if_icmp .ge 24, 3) := by decide +kernel
theorem d_Dr_isCycle_19 : decode b_Dr_isCycle 19 = .ok (.aload_n 0, 1) := by decide +kernel
theorem d_Dr_isCycle_20 : decode b_Dr_isCycle 20 = .ok (.aload_n 0, 1) := by decide +kernel
theorem d_Dr_isCycle_21 : decode b_Dr_isCycle 21 = .ok (.iload_n 1, 1) := by decide +kernel
theorem d_Dr_isCycle_22 : decode b_Dr_isCycle 22 = .ok (.invokevirtual 79, 3) := by decide +kernel
theorem d_Dr_isCycle_25 : decode b_Dr_isCycle 25 = .ok (.invokevirtual 85, 3) := by decide +kernel
theorem d_Dr_isCycle_28 : decode b_Dr_isCycle 28 = .ok (.iload_n 1, 1) := by decide +kernel
theorem d_Dr_isCycle_29 : decode b_Dr_isCycle 29 = .ok (.if_icmp .eq 5, 3) := by decide +kernel
theorem d_Dr_isCycle_32 : decode b_Dr_isCycle 32 = .ok (.iconst 0, 1) := by decide +kernel
theorem d_Dr_isCycle_33 : decode b_Dr_isCycle 33 = .ok (.ireturn, 1) := by decide +kernel
theorem d_Dr_isCycle_34 : decode b_Dr_isCycle 34 = .ok (.iinc 1 1, 3) := by decide +kernel
theorem d_Dr_isCycle_37 : decode b_Dr_isCycle 37 = .ok (.goto (-26), 3) := by decide +kernel
theorem d_Dr_isCycle_40 : decode b_Dr_isCycle 40 = .ok (.iconst 1, 1) := by decide +kernel
theorem d_Dr_isCycle_41 : decode b_Dr_isCycle 41 = .ok (.ireturn, 1) := by decide +kernel
theorem d_Dr_siteThrowing_0 : decode b_Dr_siteThrowing 0 = .ok (.aload_n 0, 1) := by decide +kernel
theorem d_Dr_siteThrowing_1 : decode b_Dr_siteThrowing 1 = .ok (.getfield 24, 3) := by decide +kernel
theorem d_Dr_siteThrowing_4 : decode b_Dr_siteThrowing 4 = .ok (.iconst 2, 1) := by decide +kernel
theorem d_Dr_siteThrowing_5 : decode b_Dr_siteThrowing 5 = .ok (.if_icmp .ne 25, 3) := by decide +kernel
theorem d_Dr_siteThrowing_8 : decode b_Dr_siteThrowing 8 = .ok (.iload_n 1, 1) := by decide +kernel
theorem d_Dr_siteThrowing_9 : decode b_Dr_siteThrowing 9 = .ok (.invokestatic 47, 3) := by decide +kernel
theorem d_Dr_siteThrowing_12 : decode b_Dr_siteThrowing 12 = .ok (.ifCond .eq 7, 3) := by decide +kernel
theorem d_Dr_siteThrowing_15 : decode b_Dr_siteThrowing 15 = .ok (.iconst (-1), 1) := by decide +kernel
theorem d_Dr_siteThrowing_16 : decode b_Dr_siteThrowing 16 = .ok (.goto 13, 3) := by decide +kernel
theorem d_Dr_siteThrowing_19 : decode b_Dr_siteThrowing 19 = .ok (.iload_n 1, 1) := by decide +kernel
theorem d_Dr_siteThrowing_20 : decode b_Dr_siteThrowing 20 = .ok (.aload_n 0, 1) := by decide +kernel
theorem d_Dr_siteThrowing_21 : decode b_Dr_siteThrowing 21 = .ok (.getfield 28, 3) := by decide +kernel
theorem d_Dr_siteThrowing_24 : decode b_Dr_siteThrowing 24 = .ok (.invokestatic 43, 3) := by decide +kernel
theorem d_Dr_siteThrowing_27 : decode b_Dr_siteThrowing 27 = .ok (.iload_n 2, 1) := by decide +kernel
theorem d_Dr_siteThrowing_28 : decode b_Dr_siteThrowing 28 = .ok (.iadd, 1) := by decide +kernel
theorem d_Dr_siteThrowing_29 : decode b_Dr_siteThrowing 29 = .ok (.ireturn, 1) := by decide +kernel
theorem d_Dr_siteThrowing_30 : decode b_Dr_siteThrowing 30 = .ok (.iload_n 2, 1) := by decide +kernel
theorem d_Dr_siteThrowing_31 : decode b_Dr_siteThrowing 31 = .ok (.iload_n 1, 1) := by decide +kernel
theorem d_Dr_siteThrowing_32 : decode b_Dr_siteThrowing 32 = .ok (.iconst 2, 1) := by decide +kernel
theorem d_Dr_siteThrowing_33 : decode b_Dr_siteThrowing 33 = .ok (.invokestatic 43, 3) := by decide +kernel
theorem d_Dr_siteThrowing_36 : decode b_Dr_siteThrowing 36 = .ok (.if_icmp .ne 14, 3) := by decide +kernel
theorem d_Dr_siteThrowing_39 : decode b_Dr_siteThrowing 39 = .ok (.iload_n 1, 1) := by decide +kernel
theorem d_Dr_siteThrowing_40 : decode b_Dr_siteThrowing 40 = .ok (.aload_n 0, 1) := by decide +kernel
theorem d_Dr_siteThrowing_41 : decode b_Dr_siteThrowing 41 = .ok (.getfield 28, 3) := by decide +kernel
theorem d_Dr_siteThrowing_44 : decode b_Dr_siteThrowing 44 = .ok (.invokestatic 43, 3) := by decide +kernel
theorem d_Dr_siteThrowing_47 : decode b_Dr_siteThrowing 47 = .ok (.goto 4, 3) := by decide +kernel
theorem d_Dr_siteThrowing_50 : decode b_Dr_siteThrowing 50 = .ok (.iconst (-1), 1) := by decide +kernel
theorem d_Dr_siteThrowing_51 : decode b_Dr_siteThrowing 51 = .ok (.ireturn, 1) := by decide +kernel
end
section
theorem d_St_init_0 : decode b_St_init 0 = .ok (.aload_n 0, 1) := by decide +kernel
theorem d_St_init_1 : decode b_St_init 1 = .ok (.invokespecial 3, 3) := by decide +kernel
theorem d_St_init_4 : decode b_St_init 4 = .ok (.aload_n 0, 1) := by decide +kernel
theorem d_St_init_5 : decode b_St_init 5 = .ok (.new 9, 3) := by decide +kernel
theorem d_St_init_8 : decode b_St_init 8 = .ok (.dup, 1) := by decide +kernel
theorem d_St_init_9 : decode b_St_init 9 = .ok (.invokespecial 11, 3) := by decide +kernel
theorem d_St_init_12 : decode b_St_init 12 = .ok (.putfield 12, 3) := by decide +kernel
theorem d_St_init_15 : decode b_St_init 15 = .ok (.aload_n 0, 1) := by decide +kernel
theorem d_St_init_16 : decode b_St_init 16 = .ok (.bipush 6, 2) := by decide +kernel
theorem d_St_init_18 : decode b_St_init 18 = .ok (.anewarray 9, 3) := by decide +kernel
theorem d_St_init_21 : decode b_St_init 21 = .ok (.putfield 16, 3) := by decide +kernel
theorem d_St_init_24 : decode b_St_init 24 = .ok (.aload_n 0, 1) := by decide +kernel
theorem d_St_init_25 : decode b_St_init 25 = .ok (.new 20, 3) := by decide +kernel
theorem d_St_init_28 : decode b_St_init 28 = .ok (.dup, 1) := by decide +kernel
theorem d_St_init_29 : decode b_St_init 29 = .ok (.invokespecial 22, 3) := by decide +kernel
theorem d_St_init_32 : decode b_St_init 32 = .ok (.putfield 23, 3) := by decide +kernel
theorem d_St_init_35 : decode b_St_init 35 = .ok (.aload_n 0, 1) := by decide +kernel
theorem d_St_init_36 : decode b_St_init 36 = .ok (.new 27, 3) := by decide +kernel
theorem d_St_init_39 : decode b_St_init 39 = .ok (.dup, 1) := by decide +kernel
theorem d_St_init_40 : decode b_St_init 40 = .ok (.invokespecial 29, 3) := by decide +kernel
theorem d_St_init_43 : decode b_St_init 43 = .ok (.putfield 30, 3) := by decide +kernel
theorem d_St_init_46 : decode b_St_init 46 = .ok (.aload_n 0, 1) := by decide +kernel
theorem d_St_init_47 : decode b_St_init 47 = .ok (.new 34, 3) := by decide +kernel
theorem d_St_init_50 : decode b_St_init 50 = .ok (.dup, 1) := by decide +kernel
theorem d_St_init_51 : decode b_St_init 51 = .ok (.invokespecial 36, 3) := by decide +kernel
theorem d_St_init_54 : decode b_St_init 54 = .ok (.putfield 37, 3) := by decide +kernel
theorem d_St_init_57 : decode b_St_init 57 = .ok (.aload_n 0, 1) := by decide +kernel
theorem d_St_init_58 : decode b_St_init 58 = .ok (.new 41, 3) := by decide +kernel
theorem d_St_init_61 : decode b_St_init 61 = .ok (.dup, 1) := by decide +kernel
theorem d_St_init_62 : decode b_St_init 62 = .ok (.invokespecial 43, 3) := by decide +kernel
theorem d_St_init_65 : decode b_St_init 65 = .ok (.putfield 44, 3) := by decide +kernel
theorem d_St_init_68 : decode b_St_init 68 = .ok (.return_, 1) := by decide +kernel
theorem d_St_valid_0 : decode b_St_valid 0 = .ok (.aload_n 0, 1) := by decide +kernel
theorem d_St_valid_1 : decode b_St_valid 1 = .ok (.getfield 12, 3) := by decide +kernel
theorem d_St_valid_4 : decode b_St_valid 4 = .ok (.invokevirtual 103, 3) := by decide +kernel
theorem d_St_valid_7 : decode b_St_valid 7 = .ok (.ireturn, 1) := by decide +kernel
theorem d_St_wrap_0 : decode b_St_wrap 0 = .ok (.iload_n 1, 1) := by decide +kernel
theorem d_St_wrap_1 : decode b_St_wrap 1 = .ok (.iconst 1, 1) := by decide +kernel
theorem d_St_wrap_2 : decode b_St_wrap 2 = .ok (.if_icmp .ge 5, 3) := by decide +kernel
theorem d_St_wrap_5 : decode b_St_wrap 5 = .ok (.iconst 0, 1) := by decide +kernel
theorem d_St_wrap_6 : decode b_St_wrap 6 = .ok (.ireturn, 1) := by decide +kernel
theorem d_St_wrap_7 : decode b_St_wrap 7 = .ok (.iload_n 0, 1) := by decide +kernel
theorem d_St_wrap_8 : decode b_St_wrap 8 = .ok (.iload_n 1, 1) := by decide +kernel
theorem d_St_wrap_9 : decode b_St_wrap 9 = .ok (.irem, 1) := by decide +kernel
theorem d_St_wrap_10 : decode b_St_wrap 10 = .ok (.istore_n 2, 1) := by decide +kernel
theorem d_St_wrap_11 : decode b_St_wrap 11 = .ok (.iload_n 2, 1) := by decide +kernel
theorem d_St_wrap_12 : decode b_St_wrap 12 = .ok (.ifCond .ge 9, 3) := by decide +kernel
theorem d_St_wrap_15 : decode b_St_wrap 15 = .ok (.iload_n 2, 1) := by decide +kernel
theorem d_St_wrap_16 : decode b_St_wrap 16 = .ok (.iload_n 1, 1) := by decide +kernel
theorem d_St_wrap_17 : decode b_St_wrap 17 = .ok (.iadd, 1) := by decide +kernel
theorem d_St_wrap_18 : decode b_St_wrap 18 = .ok (.goto 4, 3) := by decide +kernel
theorem d_St_wrap_21 : decode b_St_wrap 21 = .ok (.iload_n 2, 1) := by decide +kernel
theorem d_St_wrap_22 : decode b_St_wrap 22 = .ok (.ireturn, 1) := by decide +kernel
theorem d_St_clash_0 : decode b_St_clash 0 = .ok (.aload_n 0, 1) := by decide +kernel
theorem d_St_clash_1 : decode b_St_clash 1 = .ok (.getfield 12, 3) := by decide +kernel
theorem d_St_clash_4 : decode b_St_clash 4 = .ok (.invokevirtual 107, 3) := by decide +kernel
theorem d_St_clash_7 : decode b_St_clash 7 = .ok (.ireturn, 1) := by decide +kernel
theorem d_St_highest_0 : decode b_St_highest 0 = .ok (.aload_n 0, 1) := by decide +kernel
theorem d_St_highest_1 : decode b_St_highest 1 = .ok (.getfield 44, 3) := by decide +kernel
theorem d_St_highest_4 : decode b_St_highest 4 = .ok (.invokevirtual 219, 3) := by decide +kernel
theorem d_St_highest_7 : decode b_St_highest 7 = .ok (.ireturn, 1) := by decide +kernel
theorem d_St_begin_0 : decode b_St_begin 0 = .ok (.iload_n 1, 1) := by decide +kernel
theorem d_St_begin_1 : decode b_St_begin 1 = .ok (.ifCond .lt 19, 3) := by decide +kernel
theorem d_St_begin_4 : decode b_St_begin 4 = .ok (.iload_n 1, 1) := by decide +kernel
theorem d_St_begin_5 : decode b_St_begin 5 = .ok (.iconst 2, 1) := by decide +kernel
theorem d_St_begin_6 : decode b_St_begin 6 = .ok (.if_icmp .gt 14, 3) := by decide +kernel
theorem d_St_begin_9 : decode b_St_begin 9 = .ok (.iload_n 2, 1) := by decide +kernel
theorem d_St_begin_10 : decode b_St_begin 10 = .ok (.iconst 1, 1) := by decide +kernel
theorem d_St_begin_11 : decode b_St_begin 11 = .ok (.if_icmp .lt 9, 3) := by decide +kernel
theorem d_St_begin_14 : decode b_St_begin 14 = .ok (.iload_n 2, 1) := by decide +kernel
theorem d_St_begin_15 : decode b_St_begin 15 = .ok (.bipush 16, 2) := by decide +kernel
theorem d_St_begin_17 : decode b_St_begin 17 = .ok (.if_icmp .le 13, 3) := by decide +kernel
theorem d_St_begin_20 : decode b_St_begin 20 = .ok (.new 48, 3) := by decide +kernel
theorem d_St_begin_23 : decode b_St_begin 23 = .ok (.dup, 1) := by decide +kernel
theorem d_St_begin_24 : decode b_St_begin 24 = .ok (.ldc 50, 2) := by decide +kernel
theorem d_St_begin_26 : decode b_St_begin 26 = .ok (.invokespecial 52, 3) := by decide +kernel
theorem d_St_begin_29 : decode b_St_begin 29 = .ok (.athrow, 1) := by decide +kernel
theorem d_St_begin_30 : decode b_St_begin 30 = .ok (.iload_n 1, 1) := by decide +kernel
theorem d_St_begin_31 : decode b_St_begin 31 = .ok (.iconst 2, 1) := by decide +kernel
theorem d_St_begin_32 : decode b_St_begin 32 = .ok (.if_icmp .ne 20, 3) := by decide +kernel
theorem d_St_begin_35 : decode b_St_begin 35 = .ok (.iload_n 2, 1) := by decide +kernel
theorem d_St_begin_36 : decode b_St_begin 36 = .ok (.invokestatic 55, 3) := by decide +kernel
theorem d_St_begin_39 : decode b_St_begin 39 = .ok (.ifCond .eq 13, 3) := by decide +kernel
theorem d_St_begin_42 : decode b_St_begin 42 = .ok (.new 48, 3) := by decide +kernel
theorem d_St_begin_45 : decode b_St_begin 45 = .ok (.dup, 1) := by decide +kernel
theorem d_St_begin_46 : decode b_St_begin 46 = .ok (.ldc 59, 2) := by decide +kernel
theorem d_St_begin_48 : decode b_St_begin 48 = .ok (.invokespecial 52, 3) := by decide +kernel
theorem d_St_begin_51 : decode b_St_begin 51 = .ok (.athrow, 1) := by decide +kernel
theorem d_St_begin_52 : decode b_St_begin 52 = .ok (.aload_n 0, 1) := by decide +kernel
theorem d_St_begin_53 : decode b_St_begin 53 = .ok (.getfield 12, 3) := by decide +kernel
theorem d_St_begin_56 : decode b_St_begin 56 = .ok (.getfield 61, 3) := by decide +kernel
theorem d_St_begin_59 : decode b_St_begin 59 = .ok (.istore_n 3, 1) := by decide +kernel
theorem d_St_begin_60 : decode b_St_begin 60 = .ok (.aload_n 0, 1) := by decide +kernel
theorem d_St_begin_61 : decode b_St_begin 61 = .ok (.getfield 12, 3) := by decide +kernel
theorem d_St_begin_64 : decode b_St_begin 64 = .ok (.iload_n 1, 1) := by decide +kernel
theorem d_St_begin_65 : decode b_St_begin 65 = .ok (.iload_n 2, 1) := by decide +kernel
theorem d_St_begin_66 : decode b_St_begin 66 = .ok (.invokevirtual 65, 3) := by decide +kernel
theorem d_St_begin_69 : decode b_St_begin 69 = .ok (.iload_n 3, 1) := by decide +kernel
theorem d_St_begin_70 : decode b_St_begin 70 = .ok (.ireturn, 1) := by decide +kernel
theorem d_St_isOdd_0 : decode b_St_isOdd 0 = .ok (.iload_n 0, 1) := by decide +kernel
theorem d_St_isOdd_1 : decode b_St_isOdd 1 = .ok (.iconst 1, 1) := by decide +kernel
theorem d_St_isOdd_2 : decode b_St_isOdd 2 = .ok (.iand, 1) := by decide +kernel
theorem d_St_isOdd_3 : decode b_St_isOdd 3 = .ok (.ifCond .eq 7, 3) := by decide +kernel
theorem d_St_isOdd_6 : decode b_St_isOdd 6 = .ok (.iconst 1, 1) := by decide +kernel
theorem d_St_isOdd_7 : decode b_St_isOdd 7 = .ok (.goto 4, 3) := by decide +kernel
theorem d_St_isOdd_10 : decode b_St_isOdd 10 = .ok (.iconst 0, 1) := by decide +kernel
theorem d_St_isOdd_11 : decode b_St_isOdd 11 = .ok (.ireturn, 1) := by decide +kernel
theorem d_St_put_0 : decode b_St_put 0 = .ok (.aload_n 0, 1) := by decide +kernel
theorem d_St_put_1 : decode b_St_put 1 = .ok (.iload_n 1, 1) := by decide +kernel
theorem d_St_put_2 : decode b_St_put 2 = .ok (.invokevirtual 69, 3) := by decide +kernel
theorem d_St_put_5 : decode b_St_put 5 = .ok (.iload_n 2, 1) := by decide +kernel
theorem d_St_put_6 : decode b_St_put 6 = .ok (.invokestatic 73, 3) := by decide +kernel
theorem d_St_put_9 : decode b_St_put 9 = .ok (.aload_n 0, 1) := by decide +kernel
theorem d_St_put_10 : decode b_St_put 10 = .ok (.getfield 12, 3) := by decide +kernel
theorem d_St_put_13 : decode b_St_put 13 = .ok (.getfield 76, 3) := by decide +kernel
theorem d_St_put_16 : decode b_St_put 16 = .ok (.iconst 2, 1) := by decide +kernel
theorem d_St_put_17 : decode b_St_put 17 = .ok (.if_icmp .ne 13, 3) := by decide +kernel
theorem d_St_put_20 : decode b_St_put 20 = .ok (.iload_n 2, 1) := by decide +kernel
theorem d_St_put_21 : decode b_St_put 21 = .ok (.invokestatic 55, 3) := by decide +kernel
theorem d_St_put_24 : decode b_St_put 24 = .ok (.ifCond .eq 20, 3) := by decide +kernel
theorem d_St_put_27 : decode b_St_put 27 = .ok (.goto 7, 3) := by decide +kernel
theorem d_St_put_30 : decode b_St_put 30 = .ok (.iload_n 3, 1) := by decide +kernel
theorem d_St_put_31 : decode b_St_put 31 = .ok (.ifCond .eq 13, 3) := by decide +kernel
theorem d_St_put_34 : decode b_St_put 34 = .ok (.new 48, 3) := by decide +kernel
theorem d_St_put_37 : decode b_St_put 37 = .ok (.dup, 1) := by decide +kernel
theorem d_St_put_38 : decode b_St_put 38 = .ok (.ldc 79, 2) := by decide +kernel
theorem d_St_put_40 : decode b_St_put 40 = .ok (.invokespecial 52, 3) := by decide +kernel
theorem d_St_put_43 : decode b_St_put 43 = .ok (.athrow, 1) := by decide +kernel
theorem d_St_put_44 : decode b_St_put 44 = .ok (.aload_n 0, 1) := by decide +kernel
theorem d_St_put_45 : decode b_St_put 45 = .ok (.getfield 12, 3) := by decide +kernel
theorem d_St_put_48 : decode b_St_put 48 = .ok (.iload_n 1, 1) := by decide +kernel
theorem d_St_put_49 : decode b_St_put 49 = .ok (.invokevirtual 81, 3) := by decide +kernel
theorem d_St_put_52 : decode b_St_put 52 = .ok (.istore 4, 2) := by decide +kernel
theorem d_St_put_54 : decode b_St_put 54 = .ok (.aload_n 0, 1) := by decide +kernel
theorem d_St_put_55 : decode b_St_put 55 = .ok (.getfield 12, 3) := by decide +kernel
theorem d_St_put_58 : decode b_St_put 58 = .ok (.iload_n 1, 1) := by decide +kernel
theorem d_St_put_59 : decode b_St_put 59 = .ok (.iload_n 2, 1) := by decide +kernel
theorem d_St_put_60 : decode b_St_put 60 = .ok (.iload_n 3, 1) := by decide +kernel
theorem d_St_put_61 : decode b_St_put 61 = .ok (.invokevirtual 85, 3) := by decide +kernel
theorem d_St_put_64 : decode b_St_put 64 = .ok (.iload 4, 2) := by decide +kernel
theorem d_St_put_66 : decode b_St_put 66 = .ok (.ireturn, 1) := by decide +kernel
theorem d_St_requireSite_0 : decode b_St_requireSite 0 = .ok (.aload_n 0, 1) := by decide +kernel
theorem d_St_requireSite_1 : decode b_St_requireSite 1 = .ok (.getfield 12, 3) := by decide +kernel
theorem d_St_requireSite_4 : decode b_St_requireSite 4 = .ok (.iload_n 1, 1) := by decide +kernel
theorem d_St_requireSite_5 : decode b_St_requireSite 5 = .ok (.invokevirtual 233, 3) := by decide +kernel
theorem d_St_requireSite_8 : decode b_St_requireSite 8 = .ok (.ifCond .ne 13, 3) := by decide +kernel
theorem d_St_requireSite_11 : decode b_St_requireSite 11 = .ok (.new 133, 3) := by decide +kernel
theorem d_St_requireSite_14 : decode b_St_requireSite 14 = .ok (.dup, 1) := by decide +kernel
theorem d_St_requireSite_15 : decode b_St_requireSite 15 = .ok (.ldc 236, 2) := by decide +kernel
theorem d_St_requireSite_17 : decode b_St_requireSite 17 = .ok (.invokespecial 137, 3) := by decide +kernel
theorem d_St_requireSite_20 : decode b_St_requireSite 20 = .ok (.athrow, 1) := by decide +kernel
theorem d_St_requireSite_21 : decode b_St_requireSite 21 = .ok (.return_, 1) := by decide +kernel
theorem d_St_requireHeight_0 : decode b_St_requireHeight 0 = .ok (.iload_n 0, 1) := by decide +kernel
theorem d_St_requireHeight_1 : decode b_St_requireHeight 1 = .ok (.ifCond .lt 9, 3) := by decide +kernel
theorem d_St_requireHeight_4 : decode b_St_requireHeight 4 = .ok (.iload_n 0, 1) := by decide +kernel
theorem d_St_requireHeight_5 : decode b_St_requireHeight 5 = .ok (.bipush 9, 2) := by decide +kernel
theorem d_St_requireHeight_7 : decode b_St_requireHeight 7 = .ok (.if_icmp .le 13, 3) := by decide +kernel
theorem d_St_requireHeight_10 : decode b_St_requireHeight 10 = .ok (.new 48, 3) := by decide +kernel
theorem d_St_requireHeight_13 : decode b_St_requireHeight 13 = .ok (.dup, 1) := by decide +kernel
theorem d_St_requireHeight_14 : decode b_St_requireHeight 14 = .ok (.ldc 238, 2) := by decide +kernel
theorem d_St_requireHeight_16 : decode b_St_requireHeight 16 = .ok (.invokespecial 52, 3) := by decide +kernel
theorem d_St_requireHeight_19 : decode b_St_requireHeight 19 = .ok (.athrow, 1) := by decide +kernel
theorem d_St_requireHeight_20 : decode b_St_requireHeight 20 = .ok (.return_, 1) := by decide +kernel
theorem d_St_add_0 : decode b_St_add 0 = .ok (.aload_n 0, 1) := by decide +kernel
theorem d_St_add_1 : decode b_St_add 1 = .ok (.getfield 12, 3) := by decide +kernel
theorem d_St_add_4 : decode b_St_add 4 = .ok (.getfield 76, 3) := by decide +kernel
theorem d_St_add_7 : decode b_St_add 7 = .ok (.iconst 1, 1) := by decide +kernel
theorem d_St_add_8 : decode b_St_add 8 = .ok (.if_icmp .eq 13, 3) := by decide +kernel
theorem d_St_add_11 : decode b_St_add 11 = .ok (.new 89, 3) := by decide +kernel
theorem d_St_add_14 : decode b_St_add 14 = .ok (.dup, 1) := by decide +kernel
theorem d_St_add_15 : decode b_St_add 15 = .ok (.ldc 91, 2) := by decide +kernel
theorem d_St_add_17 : decode b_St_add 17 = .ok (.invokespecial 93, 3) := by decide +kernel
theorem d_St_add_20 : decode b_St_add 20 = .ok (.athrow, 1) := by decide +kernel
theorem d_St_add_21 : decode b_St_add 21 = .ok (.aload_n 0, 1) := by decide +kernel
theorem d_St_add_22 : decode b_St_add 22 = .ok (.iload_n 1, 1) := by decide +kernel
theorem d_St_add_23 : decode b_St_add 23 = .ok (.invokevirtual 69, 3) := by decide +kernel
theorem d_St_add_26 : decode b_St_add 26 = .ok (.aload_n 0, 1) := by decide +kernel
theorem d_St_add_27 : decode b_St_add 27 = .ok (.getfield 12, 3) := by decide +kernel
theorem d_St_add_30 : decode b_St_add 30 = .ok (.iload_n 1, 1) := by decide +kernel
theorem d_St_add_31 : decode b_St_add 31 = .ok (.invokevirtual 94, 3) := by decide +kernel
theorem d_St_add_34 : decode b_St_add 34 = .ok (.iconst 3, 1) := by decide +kernel
theorem d_St_add_35 : decode b_St_add 35 = .ok (.if_icmp .lt 13, 3) := by decide +kernel
theorem d_St_add_38 : decode b_St_add 38 = .ok (.new 89, 3) := by decide +kernel
theorem d_St_add_41 : decode b_St_add 41 = .ok (.dup, 1) := by decide +kernel
theorem d_St_add_42 : decode b_St_add 42 = .ok (.ldc 97, 2) := by decide +kernel
theorem d_St_add_44 : decode b_St_add 44 = .ok (.invokespecial 93, 3) := by decide +kernel
theorem d_St_add_47 : decode b_St_add 47 = .ok (.athrow, 1) := by decide +kernel
theorem d_St_add_48 : decode b_St_add 48 = .ok (.iload_n 2, 1) := by decide +kernel
theorem d_St_add_49 : decode b_St_add 49 = .ok (.invokestatic 73, 3) := by decide +kernel
theorem d_St_add_52 : decode b_St_add 52 = .ok (.aload_n 0, 1) := by decide +kernel
theorem d_St_add_53 : decode b_St_add 53 = .ok (.getfield 12, 3) := by decide +kernel
theorem d_St_add_56 : decode b_St_add 56 = .ok (.iload_n 1, 1) := by decide +kernel
theorem d_St_add_57 : decode b_St_add 57 = .ok (.iload_n 2, 1) := by decide +kernel
theorem d_St_add_58 : decode b_St_add 58 = .ok (.invokevirtual 99, 3) := by decide +kernel
theorem d_St_add_61 : decode b_St_add 61 = .ok (.ireturn, 1) := by decide +kernel
theorem d_St_balls_0 : decode b_St_balls 0 = .ok (.aload_n 0, 1) := by decide +kernel
theorem d_St_balls_1 : decode b_St_balls 1 = .ok (.invokevirtual 111, 3) := by decide +kernel
theorem d_St_balls_4 : decode b_St_balls 4 = .ok (.aload_n 0, 1) := by decide +kernel
theorem d_St_balls_5 : decode b_St_balls 5 = .ok (.getfield 12, 3) := by decide +kernel
theorem d_St_balls_8 : decode b_St_balls 8 = .ok (.invokevirtual 114, 3) := by decide +kernel
theorem d_St_balls_11 : decode b_St_balls 11 = .ok (.ireturn, 1) := by decide +kernel
theorem d_St_requireValid_0 : decode b_St_requireValid 0 = .ok (.aload_n 0, 1) := by decide +kernel
theorem d_St_requireValid_1 : decode b_St_requireValid 1 = .ok (.getfield 12, 3) := by decide +kernel
theorem d_St_requireValid_4 : decode b_St_requireValid 4 = .ok (.invokevirtual 103, 3) := by decide +kernel
theorem d_St_requireValid_7 : decode b_St_requireValid 7 = .ok (.ifCond .ne 13, 3) := by decide +kernel
theorem d_St_requireValid_10 : decode b_St_requireValid 10 = .ok (.new 89, 3) := by decide +kernel
theorem d_St_requireValid_13 : decode b_St_requireValid 13 = .ok (.dup, 1) := by decide +kernel
theorem d_St_requireValid_14 : decode b_St_requireValid 14 = .ok (.ldc 244, 2) := by decide +kernel
theorem d_St_requireValid_16 : decode b_St_requireValid 16 = .ok (.invokespecial 93, 3) := by decide +kernel
theorem d_St_requireValid_19 : decode b_St_requireValid 19 = .ok (.athrow, 1) := by decide +kernel
theorem d_St_requireValid_20 : decode b_St_requireValid 20 = .ok (.return_, 1) := by decide +kernel
theorem d_St_state_0 : decode b_St_state 0 = .ok (.aload_n 0, 1) := by decide +kernel
theorem d_St_state_1 : decode b_St_state 1 = .ok (.invokevirtual 117, 3) := by decide +kernel
theorem d_St_state_4 : decode b_St_state 4 = .ok (.aload_n 0, 1) := by decide +kernel
theorem d_St_state_5 : decode b_St_state 5 = .ok (.invokevirtual 111, 3) := by decide +kernel
theorem d_St_state_8 : decode b_St_state 8 = .ok (.aload_n 0, 1) := by decide +kernel
theorem d_St_state_9 : decode b_St_state 9 = .ok (.iload_n 1, 1) := by decide +kernel
theorem d_St_state_10 : decode b_St_state 10 = .ok (.invokevirtual 69, 3) := by decide +kernel
theorem d_St_state_13 : decode b_St_state 13 = .ok (.aload_n 0, 1) := by decide +kernel
theorem d_St_state_14 : decode b_St_state 14 = .ok (.getfield 12, 3) := by decide +kernel
theorem d_St_state_17 : decode b_St_state 17 = .ok (.iload_n 1, 1) := by decide +kernel
theorem d_St_state_18 : decode b_St_state 18 = .ok (.invokevirtual 120, 3) := by decide +kernel
theorem d_St_state_21 : decode b_St_state 21 = .ok (.ireturn, 1) := by decide +kernel
theorem d_St_requirePlain_0 : decode b_St_requirePlain 0 = .ok (.aload_n 0, 1) := by decide +kernel
theorem d_St_requirePlain_1 : decode b_St_requirePlain 1 = .ok (.getfield 12, 3) := by decide +kernel
theorem d_St_requirePlain_4 : decode b_St_requirePlain 4 = .ok (.getfield 76, 3) := by decide +kernel
theorem d_St_requirePlain_7 : decode b_St_requirePlain 7 = .ok (.ifCond .eq 13, 3) := by decide +kernel
theorem d_St_requirePlain_10 : decode b_St_requirePlain 10 = .ok (.new 89, 3) := by decide +kernel
theorem d_St_requirePlain_13 : decode b_St_requirePlain 13 = .ok (.dup, 1) := by decide +kernel
theorem d_St_requirePlain_14 : decode b_St_requirePlain 14 = .ok (.ldc 242, 2) := by decide +kernel
theorem d_St_requirePlain_16 : decode b_St_requirePlain 16 = .ok (.invokespecial 93, 3) := by decide +kernel
theorem d_St_requirePlain_19 : decode b_St_requirePlain 19 = .ok (.athrow, 1) := by decide +kernel
theorem d_St_requirePlain_20 : decode b_St_requirePlain 20 = .ok (.return_, 1) := by decide +kernel
theorem d_St_swap_0 : decode b_St_swap 0 = .ok (.aload_n 0, 1) := by decide +kernel
theorem d_St_swap_1 : decode b_St_swap 1 = .ok (.invokevirtual 117, 3) := by decide +kernel
theorem d_St_swap_4 : decode b_St_swap 4 = .ok (.aload_n 0, 1) := by decide +kernel
theorem d_St_swap_5 : decode b_St_swap 5 = .ok (.iload_n 1, 1) := by decide +kernel
theorem d_St_swap_6 : decode b_St_swap 6 = .ok (.invokevirtual 69, 3) := by decide +kernel
theorem d_St_swap_9 : decode b_St_swap 9 = .ok (.aload_n 0, 1) := by decide +kernel
theorem d_St_swap_10 : decode b_St_swap 10 = .ok (.iload_n 2, 1) := by decide +kernel
theorem d_St_swap_11 : decode b_St_swap 11 = .ok (.invokevirtual 69, 3) := by decide +kernel
theorem d_St_swap_14 : decode b_St_swap 14 = .ok (.aload_n 0, 1) := by decide +kernel
theorem d_St_swap_15 : decode b_St_swap 15 = .ok (.getfield 12, 3) := by decide +kernel
theorem d_St_swap_18 : decode b_St_swap 18 = .ok (.iload_n 1, 1) := by decide +kernel
theorem d_St_swap_19 : decode b_St_swap 19 = .ok (.iload_n 2, 1) := by decide +kernel
theorem d_St_swap_20 : decode b_St_swap 20 = .ok (.invokevirtual 123, 3) := by decide +kernel
theorem d_St_swap_23 : decode b_St_swap 23 = .ok (.ireturn, 1) := by decide +kernel
theorem d_St_canonical_0 : decode b_St_canonical 0 = .ok (.aload_n 0, 1) := by decide +kernel
theorem d_St_canonical_1 : decode b_St_canonical 1 = .ok (.invokevirtual 117, 3) := by decide +kernel
theorem d_St_canonical_4 : decode b_St_canonical 4 = .ok (.aload_n 0, 1) := by decide +kernel
theorem d_St_canonical_5 : decode b_St_canonical 5 = .ok (.getfield 12, 3) := by decide +kernel
theorem d_St_canonical_8 : decode b_St_canonical 8 = .ok (.invokevirtual 127, 3) := by decide +kernel
theorem d_St_canonical_11 : decode b_St_canonical 11 = .ok (.istore_n 1, 1) := by decide +kernel
theorem d_St_canonical_12 : decode b_St_canonical 12 = .ok (.aload_n 0, 1) := by decide +kernel
theorem d_St_canonical_13 : decode b_St_canonical 13 = .ok (.getfield 12, 3) := by decide +kernel
theorem d_St_canonical_16 : decode b_St_canonical 16 = .ok (.iload_n 1, 1) := by decide +kernel
theorem d_St_canonical_17 : decode b_St_canonical 17 = .ok (.invokevirtual 130, 3) := by decide +kernel
theorem d_St_canonical_20 : decode b_St_canonical 20 = .ok (.iload_n 1, 1) := by decide +kernel
theorem d_St_canonical_21 : decode b_St_canonical 21 = .ok (.ireturn, 1) := by decide +kernel
theorem d_St_height_0 : decode b_St_height 0 = .ok (.aload_n 0, 1) := by decide +kernel
theorem d_St_height_1 : decode b_St_height 1 = .ok (.iload_n 1, 1) := by decide +kernel
theorem d_St_height_2 : decode b_St_height 2 = .ok (.invokevirtual 69, 3) := by decide +kernel
theorem d_St_height_5 : decode b_St_height 5 = .ok (.iload_n 2, 1) := by decide +kernel
theorem d_St_height_6 : decode b_St_height 6 = .ok (.ifCond .lt 15, 3) := by decide +kernel
theorem d_St_height_9 : decode b_St_height 9 = .ok (.iload_n 2, 1) := by decide +kernel
theorem d_St_height_10 : decode b_St_height 10 = .ok (.aload_n 0, 1) := by decide +kernel
theorem d_St_height_11 : decode b_St_height 11 = .ok (.getfield 12, 3) := by decide +kernel
theorem d_St_height_14 : decode b_St_height 14 = .ok (.iload_n 1, 1) := by decide +kernel
theorem d_St_height_15 : decode b_St_height 15 = .ok (.invokevirtual 94, 3) := by decide +kernel
theorem d_St_height_18 : decode b_St_height 18 = .ok (.if_icmp .lt 13, 3) := by decide +kernel
theorem d_St_height_21 : decode b_St_height 21 = .ok (.new 133, 3) := by decide +kernel
theorem d_St_height_24 : decode b_St_height 24 = .ok (.dup, 1) := by decide +kernel
theorem d_St_height_25 : decode b_St_height 25 = .ok (.ldc 135, 2) := by decide +kernel
theorem d_St_height_27 : decode b_St_height 27 = .ok (.invokespecial 137, 3) := by decide +kernel
theorem d_St_height_30 : decode b_St_height 30 = .ok (.athrow, 1) := by decide +kernel
theorem d_St_height_31 : decode b_St_height 31 = .ok (.aload_n 0, 1) := by decide +kernel
theorem d_St_height_32 : decode b_St_height 32 = .ok (.getfield 12, 3) := by decide +kernel
theorem d_St_height_35 : decode b_St_height 35 = .ok (.iload_n 1, 1) := by decide +kernel
theorem d_St_height_36 : decode b_St_height 36 = .ok (.iload_n 2, 1) := by decide +kernel
theorem d_St_height_37 : decode b_St_height 37 = .ok (.invokevirtual 138, 3) := by decide +kernel
theorem d_St_height_40 : decode b_St_height 40 = .ok (.aload_n 0, 1) := by decide +kernel
theorem d_St_height_41 : decode b_St_height 41 = .ok (.getfield 12, 3) := by decide +kernel
theorem d_St_height_44 : decode b_St_height 44 = .ok (.iload_n 1, 1) := by decide +kernel
theorem d_St_height_45 : decode b_St_height 45 = .ok (.invokevirtual 141, 3) := by decide +kernel
theorem d_St_height_48 : decode b_St_height 48 = .ok (.iadd, 1) := by decide +kernel
theorem d_St_height_49 : decode b_St_height 49 = .ok (.ireturn, 1) := by decide +kernel
theorem d_St_save_0 : decode b_St_save 0 = .ok (.iload_n 1, 1) := by decide +kernel
theorem d_St_save_1 : decode b_St_save 1 = .ok (.invokestatic 144, 3) := by decide +kernel
theorem d_St_save_4 : decode b_St_save 4 = .ok (.aload_n 0, 1) := by decide +kernel
theorem d_St_save_5 : decode b_St_save 5 = .ok (.getfield 16, 3) := by decide +kernel
theorem d_St_save_8 : decode b_St_save 8 = .ok (.iload_n 1, 1) := by decide +kernel
theorem d_St_save_9 : decode b_St_save 9 = .ok (.aaload, 1) := by decide +kernel
theorem d_St_save_10 : decode b_St_save 10 = .ok (.astore_n 2, 1) := by decide +kernel
theorem d_St_save_11 : decode b_St_save 11 = .ok (.aload_n 2, 1) := by decide +kernel
theorem d_St_save_12 : decode b_St_save 12 = .ok (.ifnull 7, 3) := by decide +kernel
theorem d_St_save_15 : decode b_St_save 15 = .ok (.iconst 1, 1) := by decide +kernel
theorem d_St_save_16 : decode b_St_save 16 = .ok (.goto 4, 3) := by decide +kernel
theorem d_St_save_19 : decode b_St_save 19 = .ok (.iconst 0, 1) := by decide +kernel
theorem d_St_save_20 : decode b_St_save 20 = .ok (.istore_n 3, 1) := by decide +kernel
theorem d_St_save_21 : decode b_St_save 21 = .ok (.aload_n 2, 1) := by decide +kernel
theorem d_St_save_22 : decode b_St_save 22 = .ok (.ifnonnull 18, 3) := by decide +kernel
theorem d_St_save_25 : decode b_St_save 25 = .ok (.new 9, 3) := by decide +kernel
theorem d_St_save_28 : decode b_St_save 28 = .ok (.dup, 1) := by decide +kernel
theorem d_St_save_29 : decode b_St_save 29 = .ok (.invokespecial 11, 3) := by decide +kernel
theorem d_St_save_32 : decode b_St_save 32 = .ok (.astore_n 2, 1) := by decide +kernel
theorem d_St_save_33 : decode b_St_save 33 = .ok (.aload_n 0, 1) := by decide +kernel
theorem d_St_save_34 : decode b_St_save 34 = .ok (.getfield 16, 3) := by decide +kernel
theorem d_St_save_37 : decode b_St_save 37 = .ok (.iload_n 1, 1) := by decide +kernel
theorem d_St_save_38 : decode b_St_save 38 = .ok (.aload_n 2, 1) := by decide +kernel
theorem d_St_save_39 : decode b_St_save 39 = .ok (.aastore, 1) := by decide +kernel
theorem d_St_save_40 : decode b_St_save 40 = .ok (.aload_n 2, 1) := by decide +kernel
theorem d_St_save_41 : decode b_St_save 41 = .ok (.aload_n 0, 1) := by decide +kernel
theorem d_St_save_42 : decode b_St_save 42 = .ok (.getfield 12, 3) := by decide +kernel
theorem d_St_save_45 : decode b_St_save 45 = .ok (.invokevirtual 147, 3) := by decide +kernel
theorem d_St_save_48 : decode b_St_save 48 = .ok (.iload_n 3, 1) := by decide +kernel
theorem d_St_save_49 : decode b_St_save 49 = .ok (.ireturn, 1) := by decide +kernel
theorem d_St_requireSlot_0 : decode b_St_requireSlot 0 = .ok (.iload_n 0, 1) := by decide +kernel
theorem d_St_requireSlot_1 : decode b_St_requireSlot 1 = .ok (.ifCond .lt 9, 3) := by decide +kernel
theorem d_St_requireSlot_4 : decode b_St_requireSlot 4 = .ok (.iload_n 0, 1) := by decide +kernel
theorem d_St_requireSlot_5 : decode b_St_requireSlot 5 = .ok (.bipush 6, 2) := by decide +kernel
theorem d_St_requireSlot_7 : decode b_St_requireSlot 7 = .ok (.if_icmp .lt 13, 3) := by decide +kernel
theorem d_St_requireSlot_10 : decode b_St_requireSlot 10 = .ok (.new 133, 3) := by decide +kernel
theorem d_St_requireSlot_13 : decode b_St_requireSlot 13 = .ok (.dup, 1) := by decide +kernel
theorem d_St_requireSlot_14 : decode b_St_requireSlot 14 = .ok (.ldc 240, 2) := by decide +kernel
theorem d_St_requireSlot_16 : decode b_St_requireSlot 16 = .ok (.invokespecial 137, 3) := by decide +kernel
theorem d_St_requireSlot_19 : decode b_St_requireSlot 19 = .ok (.athrow, 1) := by decide +kernel
theorem d_St_requireSlot_20 : decode b_St_requireSlot 20 = .ok (.return_, 1) := by decide +kernel
theorem d_St_load_0 : decode b_St_load 0 = .ok (.iload_n 1, 1) := by decide +kernel
theorem d_St_load_1 : decode b_St_load 1 = .ok (.invokestatic 144, 3) := by decide +kernel
theorem d_St_load_4 : decode b_St_load 4 = .ok (.aload_n 0, 1) := by decide +kernel
theorem d_St_load_5 : decode b_St_load 5 = .ok (.getfield 16, 3) := by decide +kernel
theorem d_St_load_8 : decode b_St_load 8 = .ok (.iload_n 1, 1) := by decide +kernel
theorem d_St_load_9 : decode b_St_load 9 = .ok (.aaload, 1) := by decide +kernel
theorem d_St_load_10 : decode b_St_load 10 = .ok (.astore_n 2, 1) := by decide +kernel
theorem d_St_load_11 : decode b_St_load 11 = .ok (.aload_n 2, 1) := by decide +kernel
theorem d_St_load_12 : decode b_St_load 12 = .ok (.ifnonnull 13, 3) := by decide +kernel
theorem d_St_load_15 : decode b_St_load 15 = .ok (.new 151, 3) := by decide +kernel
theorem d_St_load_18 : decode b_St_load 18 = .ok (.dup, 1) := by decide +kernel
theorem d_St_load_19 : decode b_St_load 19 = .ok (.ldc 153, 2) := by decide +kernel
theorem d_St_load_21 : decode b_St_load 21 = .ok (.invokespecial 155, 3) := by decide +kernel
theorem d_St_load_24 : decode b_St_load 24 = .ok (.athrow, 1) := by decide +kernel
theorem d_St_load_25 : decode b_St_load 25 = .ok (.aload_n 0, 1) := by decide +kernel
theorem d_St_load_26 : decode b_St_load 26 = .ok (.getfield 12, 3) := by decide +kernel
theorem d_St_load_29 : decode b_St_load 29 = .ok (.aload_n 2, 1) := by decide +kernel
theorem d_St_load_30 : decode b_St_load 30 = .ok (.invokevirtual 147, 3) := by decide +kernel
theorem d_St_load_33 : decode b_St_load 33 = .ok (.aload_n 0, 1) := by decide +kernel
theorem d_St_load_34 : decode b_St_load 34 = .ok (.getfield 12, 3) := by decide +kernel
theorem d_St_load_37 : decode b_St_load 37 = .ok (.getfield 61, 3) := by decide +kernel
theorem d_St_load_40 : decode b_St_load 40 = .ok (.ireturn, 1) := by decide +kernel
theorem d_St_join_0 : decode b_St_join 0 = .ok (.iload_n 1, 1) := by decide +kernel
theorem d_St_join_1 : decode b_St_join 1 = .ok (.invokestatic 144, 3) := by decide +kernel
theorem d_St_join_4 : decode b_St_join 4 = .ok (.iload_n 2, 1) := by decide +kernel
theorem d_St_join_5 : decode b_St_join 5 = .ok (.invokestatic 144, 3) := by decide +kernel
theorem d_St_join_8 : decode b_St_join 8 = .ok (.aload_n 0, 1) := by decide +kernel
theorem d_St_join_9 : decode b_St_join 9 = .ok (.getfield 16, 3) := by decide +kernel
theorem d_St_join_12 : decode b_St_join 12 = .ok (.iload_n 1, 1) := by decide +kernel
theorem d_St_join_13 : decode b_St_join 13 = .ok (.aaload, 1) := by decide +kernel
theorem d_St_join_14 : decode b_St_join 14 = .ok (.astore_n 3, 1) := by decide +kernel
theorem d_St_join_15 : decode b_St_join 15 = .ok (.aload_n 0, 1) := by decide +kernel
theorem d_St_join_16 : decode b_St_join 16 = .ok (.getfield 16, 3) := by decide +kernel
theorem d_St_join_19 : decode b_St_join 19 = .ok (.iload_n 2, 1) := by decide +kernel
theorem d_St_join_20 : decode b_St_join 20 = .ok (.aaload, 1) := by decide +kernel
theorem d_St_join_21 : decode b_St_join 21 = .ok (.astore 4, 2) := by decide +kernel
theorem d_St_join_23 : decode b_St_join 23 = .ok (.aload_n 3, 1) := by decide +kernel
theorem d_St_join_24 : decode b_St_join 24 = .ok (.ifnull 8, 3) := by decide +kernel
theorem d_St_join_27 : decode b_St_join 27 = .ok (.aload 4, 2) := by decide +kernel
theorem d_St_join_29 : decode b_St_join 29 = .ok (.ifnonnull 13, 3) := by decide +kernel
theorem d_St_join_32 : decode b_St_join 32 = .ok (.new 151, 3) := by decide +kernel
theorem d_St_join_35 : decode b_St_join 35 = .ok (.dup, 1) := by decide +kernel
theorem d_St_join_36 : decode b_St_join 36 = .ok (.ldc 153, 2) := by decide +kernel
theorem d_St_join_38 : decode b_St_join 38 = .ok (.invokespecial 155, 3) := by decide +kernel
theorem d_St_join_41 : decode b_St_join 41 = .ok (.athrow, 1) := by decide +kernel
theorem d_St_join_42 : decode b_St_join 42 = .ok (.aload_n 3, 1) := by decide +kernel
theorem d_St_join_43 : decode b_St_join 43 = .ok (.invokevirtual 156, 3) := by decide +kernel
theorem d_St_join_46 : decode b_St_join 46 = .ok (.ifCond .eq 23, 3) := by decide +kernel
theorem d_St_join_49 : decode b_St_join 49 = .ok (.aload 4, 2) := by decide +kernel
theorem d_St_join_51 : decode b_St_join 51 = .ok (.invokevirtual 156, 3) := by decide +kernel
theorem d_St_join_54 : decode b_St_join 54 = .ok (.ifCond .eq 15, 3) := by decide +kernel
theorem d_St_join_57 : decode b_St_join 57 = .ok (.aload_n 3, 1) := by decide +kernel
theorem d_St_join_58 : decode b_St_join 58 = .ok (.invokevirtual 114, 3) := by decide +kernel
theorem d_St_join_61 : decode b_St_join 61 = .ok (.aload 4, 2) := by decide +kernel
theorem d_St_join_63 : decode b_St_join 63 = .ok (.invokevirtual 114, 3) := by decide +kernel
theorem d_St_join_66 : decode b_St_join 66 = .ok (.if_icmp .eq 13, 3) := by decide +kernel
theorem d_St_join_69 : decode b_St_join 69 = .ok (.new 48, 3) := by decide +kernel
theorem d_St_join_72 : decode b_St_join 72 = .ok (.dup, 1) := by decide +kernel
theorem d_St_join_73 : decode b_St_join 73 = .ok (.ldc 159, 2) := by decide +kernel
theorem d_St_join_75 : decode b_St_join 75 = .ok (.invokespecial 52, 3) := by decide +kernel
theorem d_St_join_78 : decode b_St_join 78 = .ok (.athrow, 1) := by decide +kernel
theorem d_St_join_79 : decode b_St_join 79 = .ok (.aload_n 0, 1) := by decide +kernel
theorem d_St_join_80 : decode b_St_join 80 = .ok (.getfield 23, 3) := by decide +kernel
theorem d_St_join_83 : decode b_St_join 83 = .ok (.aload_n 3, 1) := by decide +kernel
theorem d_St_join_84 : decode b_St_join 84 = .ok (.aload 4, 2) := by decide +kernel
theorem d_St_join_86 : decode b_St_join 86 = .ok (.invokevirtual 161, 3) := by decide +kernel
theorem d_St_join_89 : decode b_St_join 89 = .ok (.aload_n 0, 1) := by decide +kernel
theorem d_St_join_90 : decode b_St_join 90 = .ok (.getfield 23, 3) := by decide +kernel
theorem d_St_join_93 : decode b_St_join 93 = .ok (.getfield 165, 3) := by decide +kernel
theorem d_St_join_96 : decode b_St_join 96 = .ok (.ireturn, 1) := by decide +kernel
theorem d_St_stateFrom_0 : decode b_St_stateFrom 0 = .ok (.iload_n 1, 1) := by decide +kernel
theorem d_St_stateFrom_1 : decode b_St_stateFrom 1 = .ok (.ifCond .ne 7, 3) := by decide +kernel
theorem d_St_stateFrom_4 : decode b_St_stateFrom 4 = .ok (.iconst 0, 1) := by decide +kernel
theorem d_St_stateFrom_5 : decode b_St_stateFrom 5 = .ok (.goto 8, 3) := by decide +kernel
theorem d_St_stateFrom_8 : decode b_St_stateFrom 8 = .ok (.iconst 1, 1) := by decide +kernel
theorem d_St_stateFrom_9 : decode b_St_stateFrom 9 = .ok (.iload_n 1, 1) := by decide +kernel
theorem d_St_stateFrom_10 : decode b_St_stateFrom 10 = .ok (.iconst 1, 1) := by decide +kernel
theorem d_St_stateFrom_11 : decode b_St_stateFrom 11 = .ok (.isub, 1) := by decide +kernel
theorem d_St_stateFrom_12 : decode b_St_stateFrom 12 = .ok (.ishl, 1) := by decide +kernel
theorem d_St_stateFrom_13 : decode b_St_stateFrom 13 = .ok (.istore_n 2, 1) := by decide +kernel
theorem d_St_stateFrom_14 : decode b_St_stateFrom 14 = .ok (.iload_n 0, 1) := by decide +kernel
theorem d_St_stateFrom_15 : decode b_St_stateFrom 15 = .ok (.iload_n 2, 1) := by decide +kernel
theorem d_St_stateFrom_16 : decode b_St_stateFrom 16 = .ok (.iand, 1) := by decide +kernel
theorem d_St_stateFrom_17 : decode b_St_stateFrom 17 = .ok (.iload_n 2, 1) := by decide +kernel
theorem d_St_stateFrom_18 : decode b_St_stateFrom 18 = .ok (.if_icmp .eq 5, 3) := by decide +kernel
theorem d_St_stateFrom_21 : decode b_St_stateFrom 21 = .ok (.iconst (-1), 1) := by decide +kernel
theorem d_St_stateFrom_22 : decode b_St_stateFrom 22 = .ok (.ireturn, 1) := by decide +kernel
theorem d_St_stateFrom_23 : decode b_St_stateFrom 23 = .ok (.iload_n 1, 1) := by decide +kernel
theorem d_St_stateFrom_24 : decode b_St_stateFrom 24 = .ok (.ifCond .ne 7, 3) := by decide +kernel
theorem d_St_stateFrom_27 : decode b_St_stateFrom 27 = .ok (.iconst 0, 1) := by decide +kernel
theorem d_St_stateFrom_28 : decode b_St_stateFrom 28 = .ok (.goto 4, 3) := by decide +kernel
theorem d_St_stateFrom_31 : decode b_St_stateFrom 31 = .ok (.iconst 1, 1) := by decide +kernel
theorem d_St_stateFrom_32 : decode b_St_stateFrom 32 = .ok (.istore_n 3, 1) := by decide +kernel
theorem d_St_stateFrom_33 : decode b_St_stateFrom 33 = .ok (.iload_n 0, 1) := by decide +kernel
theorem d_St_stateFrom_34 : decode b_St_stateFrom 34 = .ok (.iload_n 2, 1) := by decide +kernel
theorem d_St_stateFrom_35 : decode b_St_stateFrom 35 = .ok (.iconst (-1), 1) := by decide +kernel
theorem d_St_stateFrom_36 : decode b_St_stateFrom 36 = .ok (.ixor, 1) := by decide +kernel
theorem d_St_stateFrom_37 : decode b_St_stateFrom 37 = .ok (.iand, 1) := by decide +kernel
theorem d_St_stateFrom_38 : decode b_St_stateFrom 38 = .ok (.iconst 1, 1) := by decide +kernel
theorem d_St_stateFrom_39 : decode b_St_stateFrom 39 = .ok (.ishl, 1) := by decide +kernel
theorem d_St_stateFrom_40 : decode b_St_stateFrom 40 = .ok (.iload_n 3, 1) := by decide +kernel
theorem d_St_stateFrom_41 : decode b_St_stateFrom 41 = .ok (.ior, 1) := by decide +kernel
theorem d_St_stateFrom_42 : decode b_St_stateFrom 42 = .ok (.istore 4, 2) := by decide +kernel
theorem d_St_stateFrom_44 : decode b_St_stateFrom 44 = .ok (.iload 4, 2) := by decide +kernel
theorem d_St_stateFrom_46 : decode b_St_stateFrom 46 = .ok (.sipush 512, 3) := by decide +kernel
theorem d_St_stateFrom_49 : decode b_St_stateFrom 49 = .ok (.if_icmp .ge 8, 3) := by decide +kernel
theorem d_St_stateFrom_52 : decode b_St_stateFrom 52 = .ok (.iload 4, 2) := by decide +kernel
theorem d_St_stateFrom_54 : decode b_St_stateFrom 54 = .ok (.goto 4, 3) := by decide +kernel
theorem d_St_stateFrom_57 : decode b_St_stateFrom 57 = .ok (.iconst (-1), 1) := by decide +kernel
theorem d_St_stateFrom_58 : decode b_St_stateFrom 58 = .ok (.ireturn, 1) := by decide +kernel
theorem d_St_stateAfter_0 : decode b_St_stateAfter 0 = .ok (.iload_n 0, 1) := by decide +kernel
theorem d_St_stateAfter_1 : decode b_St_stateAfter 1 = .ok (.invokestatic 55, 3) := by decide +kernel
theorem d_St_stateAfter_4 : decode b_St_stateAfter 4 = .ok (.istore_n 2, 1) := by decide +kernel
theorem d_St_stateAfter_5 : decode b_St_stateAfter 5 = .ok (.iload_n 0, 1) := by decide +kernel
theorem d_St_stateAfter_6 : decode b_St_stateAfter 6 = .ok (.iconst 1, 1) := by decide +kernel
theorem d_St_stateAfter_7 : decode b_St_stateAfter 7 = .ok (.ishr, 1) := by decide +kernel
theorem d_St_stateAfter_8 : decode b_St_stateAfter 8 = .ok (.istore_n 3, 1) := by decide +kernel
theorem d_St_stateAfter_9 : decode b_St_stateAfter 9 = .ok (.iload_n 1, 1) := by decide +kernel
theorem d_St_stateAfter_10 : decode b_St_stateAfter 10 = .ok (.ifCond .ne 13, 3) := by decide +kernel
theorem d_St_stateAfter_13 : decode b_St_stateAfter 13 = .ok (.iload_n 2, 1) := by decide +kernel
theorem d_St_stateAfter_14 : decode b_St_stateAfter 14 = .ok (.ifCond .eq 7, 3) := by decide +kernel
theorem d_St_stateAfter_17 : decode b_St_stateAfter 17 = .ok (.iconst (-1), 1) := by decide +kernel
theorem d_St_stateAfter_18 : decode b_St_stateAfter 18 = .ok (.goto 4, 3) := by decide +kernel
theorem d_St_stateAfter_21 : decode b_St_stateAfter 21 = .ok (.iload_n 3, 1) := by decide +kernel
theorem d_St_stateAfter_22 : decode b_St_stateAfter 22 = .ok (.ireturn, 1) := by decide +kernel
theorem d_St_stateAfter_23 : decode b_St_stateAfter 23 = .ok (.iconst 1, 1) := by decide +kernel
theorem d_St_stateAfter_24 : decode b_St_stateAfter 24 = .ok (.iload_n 1, 1) := by decide +kernel
theorem d_St_stateAfter_25 : decode b_St_stateAfter 25 = .ok (.iconst 1, 1) := by decide +kernel
theorem d_St_stateAfter_26 : decode b_St_stateAfter 26 = .ok (.isub, 1) := by decide +kernel
theorem d_St_stateAfter_27 : decode b_St_stateAfter 27 = .ok (.ishl, 1) := by decide +kernel
theorem d_St_stateAfter_28 : decode b_St_stateAfter 28 = .ok (.istore 4, 2) := by decide +kernel
theorem d_St_stateAfter_30 : decode b_St_stateAfter 30 = .ok (.iload_n 2, 1) := by decide +kernel
theorem d_St_stateAfter_31 : decode b_St_stateAfter 31 = .ok (.ifCond .eq 10, 3) := by decide +kernel
theorem d_St_stateAfter_34 : decode b_St_stateAfter 34 = .ok (.iload_n 3, 1) := by decide +kernel
theorem d_St_stateAfter_35 : decode b_St_stateAfter 35 = .ok (.iload 4, 2) := by decide +kernel
theorem d_St_stateAfter_37 : decode b_St_stateAfter 37 = .ok (.iand, 1) := by decide +kernel
theorem d_St_stateAfter_38 : decode b_St_stateAfter 38 = .ok (.ifCond .eq 7, 3) := by decide +kernel
theorem d_St_stateAfter_41 : decode b_St_stateAfter 41 = .ok (.iconst (-1), 1) := by decide +kernel
theorem d_St_stateAfter_42 : decode b_St_stateAfter 42 = .ok (.goto 7, 3) := by decide +kernel
theorem d_St_stateAfter_45 : decode b_St_stateAfter 45 = .ok (.iload_n 3, 1) := by decide +kernel
theorem d_St_stateAfter_46 : decode b_St_stateAfter 46 = .ok (.iload 4, 2) := by decide +kernel
theorem d_St_stateAfter_48 : decode b_St_stateAfter 48 = .ok (.ior, 1) := by decide +kernel
theorem d_St_stateAfter_49 : decode b_St_stateAfter 49 = .ok (.ireturn, 1) := by decide +kernel
theorem d_St_joinThrow_0 : decode b_St_joinThrow 0 = .ok (.iload_n 1, 1) := by decide +kernel
theorem d_St_joinThrow_1 : decode b_St_joinThrow 1 = .ok (.ifCond .lt 14, 3) := by decide +kernel
theorem d_St_joinThrow_4 : decode b_St_joinThrow 4 = .ok (.iload_n 1, 1) := by decide +kernel
theorem d_St_joinThrow_5 : decode b_St_joinThrow 5 = .ok (.aload_n 0, 1) := by decide +kernel
theorem d_St_joinThrow_6 : decode b_St_joinThrow 6 = .ok (.getfield 23, 3) := by decide +kernel
theorem d_St_joinThrow_9 : decode b_St_joinThrow 9 = .ok (.getfield 165, 3) := by decide +kernel
theorem d_St_joinThrow_12 : decode b_St_joinThrow 12 = .ok (.if_icmp .lt 13, 3) := by decide +kernel
theorem d_St_joinThrow_15 : decode b_St_joinThrow 15 = .ok (.new 133, 3) := by decide +kernel
theorem d_St_joinThrow_18 : decode b_St_joinThrow 18 = .ok (.dup, 1) := by decide +kernel
theorem d_St_joinThrow_19 : decode b_St_joinThrow 19 = .ok (.ldc 168, 2) := by decide +kernel
theorem d_St_joinThrow_21 : decode b_St_joinThrow 21 = .ok (.invokespecial 137, 3) := by decide +kernel
theorem d_St_joinThrow_24 : decode b_St_joinThrow 24 = .ok (.athrow, 1) := by decide +kernel
theorem d_St_joinThrow_25 : decode b_St_joinThrow 25 = .ok (.aload_n 0, 1) := by decide +kernel
theorem d_St_joinThrow_26 : decode b_St_joinThrow 26 = .ok (.getfield 23, 3) := by decide +kernel
theorem d_St_joinThrow_29 : decode b_St_joinThrow 29 = .ok (.iload_n 1, 1) := by decide +kernel
theorem d_St_joinThrow_30 : decode b_St_joinThrow 30 = .ok (.invokevirtual 170, 3) := by decide +kernel
theorem d_St_joinThrow_33 : decode b_St_joinThrow 33 = .ok (.ireturn, 1) := by decide +kernel
theorem d_St_joinAt_0 : decode b_St_joinAt 0 = .ok (.iload_n 1, 1) := by decide +kernel
theorem d_St_joinAt_1 : decode b_St_joinAt 1 = .ok (.ifCond .lt 18, 3) := by decide +kernel
theorem d_St_joinAt_4 : decode b_St_joinAt 4 = .ok (.iload_n 1, 1) := by decide +kernel
theorem d_St_joinAt_5 : decode b_St_joinAt 5 = .ok (.iconst 1, 1) := by decide +kernel
theorem d_St_joinAt_6 : decode b_St_joinAt 6 = .ok (.if_icmp .gt 13, 3) := by decide +kernel
theorem d_St_joinAt_9 : decode b_St_joinAt 9 = .ok (.aload_n 0, 1) := by decide +kernel
theorem d_St_joinAt_10 : decode b_St_joinAt 10 = .ok (.getfield 23, 3) := by decide +kernel
theorem d_St_joinAt_13 : decode b_St_joinAt 13 = .ok (.getfield 173, 3) := by decide +kernel
theorem d_St_joinAt_16 : decode b_St_joinAt 16 = .ok (.ifCond .ne 13, 3) := by decide +kernel
theorem d_St_joinAt_19 : decode b_St_joinAt 19 = .ok (.new 133, 3) := by decide +kernel
theorem d_St_joinAt_22 : decode b_St_joinAt 22 = .ok (.dup, 1) := by decide +kernel
theorem d_St_joinAt_23 : decode b_St_joinAt 23 = .ok (.ldc 177, 2) := by decide +kernel
theorem d_St_joinAt_25 : decode b_St_joinAt 25 = .ok (.invokespecial 137, 3) := by decide +kernel
theorem d_St_joinAt_28 : decode b_St_joinAt 28 = .ok (.athrow, 1) := by decide +kernel
theorem d_St_joinAt_29 : decode b_St_joinAt 29 = .ok (.iload_n 1, 1) := by decide +kernel
theorem d_St_joinAt_30 : decode b_St_joinAt 30 = .ok (.ifCond .ne 13, 3) := by decide +kernel
theorem d_St_joinAt_33 : decode b_St_joinAt 33 = .ok (.aload_n 0, 1) := by decide +kernel
theorem d_St_joinAt_34 : decode b_St_joinAt 34 = .ok (.getfield 23, 3) := by decide +kernel
theorem d_St_joinAt_37 : decode b_St_joinAt 37 = .ok (.getfield 179, 3) := by decide +kernel
theorem d_St_joinAt_40 : decode b_St_joinAt 40 = .ok (.goto 10, 3) := by decide +kernel
theorem d_St_joinAt_43 : decode b_St_joinAt 43 = .ok (.aload_n 0, 1) := by decide +kernel
theorem d_St_joinAt_44 : decode b_St_joinAt 44 = .ok (.getfield 23, 3) := by decide +kernel
theorem d_St_joinAt_47 : decode b_St_joinAt 47 = .ok (.getfield 182, 3) := by decide +kernel
theorem d_St_joinAt_50 : decode b_St_joinAt 50 = .ok (.ireturn, 1) := by decide +kernel
theorem d_St_countValid_0 : decode b_St_countValid 0 = .ok (.iload_n 1, 1) := by decide +kernel
theorem d_St_countValid_1 : decode b_St_countValid 1 = .ok (.iconst 1, 1) := by decide +kernel
theorem d_St_countValid_2 : decode b_St_countValid 2 = .ok (.if_icmp .lt 19, 3) := by decide +kernel
theorem d_St_countValid_5 : decode b_St_countValid 5 = .ok (.iload_n 1, 1) := by decide +kernel
theorem d_St_countValid_6 : decode b_St_countValid 6 = .ok (.bipush 6, 2) := by decide +kernel
theorem d_St_countValid_8 : decode b_St_countValid 8 = .ok (.if_icmp .gt 13, 3) := by decide +kernel
theorem d_St_countValid_11 : decode b_St_countValid 11 = .ok (.iload_n 2, 1) := by decide +kernel
theorem d_St_countValid_12 : decode b_St_countValid 12 = .ok (.ifCond .lt 9, 3) := by decide +kernel
theorem d_St_countValid_15 : decode b_St_countValid 15 = .ok (.iload_n 2, 1) := by decide +kernel
theorem d_St_countValid_16 : decode b_St_countValid 16 = .ok (.bipush 9, 2) := by decide +kernel
theorem d_St_countValid_18 : decode b_St_countValid 18 = .ok (.if_icmp .le 13, 3) := by decide +kernel
theorem d_St_countValid_21 : decode b_St_countValid 21 = .ok (.new 48, 3) := by decide +kernel
theorem d_St_countValid_24 : decode b_St_countValid 24 = .ok (.dup, 1) := by decide +kernel
theorem d_St_countValid_25 : decode b_St_countValid 25 = .ok (.ldc 185, 2) := by decide +kernel
theorem d_St_countValid_27 : decode b_St_countValid 27 = .ok (.invokespecial 52, 3) := by decide +kernel
theorem d_St_countValid_30 : decode b_St_countValid 30 = .ok (.athrow, 1) := by decide +kernel
theorem d_St_countValid_31 : decode b_St_countValid 31 = .ok (.aload_n 0, 1) := by decide +kernel
theorem d_St_countValid_32 : decode b_St_countValid 32 = .ok (.getfield 30, 3) := by decide +kernel
theorem d_St_countValid_35 : decode b_St_countValid 35 = .ok (.iload_n 1, 1) := by decide +kernel
theorem d_St_countValid_36 : decode b_St_countValid 36 = .ok (.iload_n 2, 1) := by decide +kernel
theorem d_St_countValid_37 : decode b_St_countValid 37 = .ok (.invokevirtual 187, 3) := by decide +kernel
theorem d_St_countValid_40 : decode b_St_countValid 40 = .ok (.ireturn, 1) := by decide +kernel
theorem d_St_cycle_0 : decode b_St_cycle 0 = .ok (.iload_n 1, 1) := by decide +kernel
theorem d_St_cycle_1 : decode b_St_cycle 1 = .ok (.iconst 1, 1) := by decide +kernel
theorem d_St_cycle_2 : decode b_St_cycle 2 = .ok (.if_icmp .lt 12, 3) := by decide +kernel
theorem d_St_cycle_5 : decode b_St_cycle 5 = .ok (.iload_n 1, 1) := by decide +kernel
theorem d_St_cycle_6 : decode b_St_cycle 6 = .ok (.iconst 4, 1) := by decide +kernel
theorem d_St_cycle_7 : decode b_St_cycle 7 = .ok (.if_icmp .gt 7, 3) := by decide +kernel
theorem d_St_cycle_10 : decode b_St_cycle 10 = .ok (.iload_n 2, 1) := by decide +kernel
theorem d_St_cycle_11 : decode b_St_cycle 11 = .ok (.ifCond .ge 13, 3) := by decide +kernel
theorem d_St_cycle_14 : decode b_St_cycle 14 = .ok (.new 48, 3) := by decide +kernel
theorem d_St_cycle_17 : decode b_St_cycle 17 = .ok (.dup, 1) := by decide +kernel
theorem d_St_cycle_18 : decode b_St_cycle 18 = .ok (.ldc 190, 2) := by decide +kernel
theorem d_St_cycle_20 : decode b_St_cycle 20 = .ok (.invokespecial 52, 3) := by decide +kernel
theorem d_St_cycle_23 : decode b_St_cycle 23 = .ok (.athrow, 1) := by decide +kernel
theorem d_St_cycle_24 : decode b_St_cycle 24 = .ok (.aload_n 0, 1) := by decide +kernel
theorem d_St_cycle_25 : decode b_St_cycle 25 = .ok (.getfield 37, 3) := by decide +kernel
theorem d_St_cycle_28 : decode b_St_cycle 28 = .ok (.iload_n 1, 1) := by decide +kernel
theorem d_St_cycle_29 : decode b_St_cycle 29 = .ok (.iload_n 2, 1) := by decide +kernel
theorem d_St_cycle_30 : decode b_St_cycle 30 = .ok (.invokevirtual 192, 3) := by decide +kernel
theorem d_St_cycle_33 : decode b_St_cycle 33 = .ok (.istore_n 3, 1) := by decide +kernel
theorem d_St_cycle_34 : decode b_St_cycle 34 = .ok (.iload_n 3, 1) := by decide +kernel
theorem d_St_cycle_35 : decode b_St_cycle 35 = .ok (.iconst (-1), 1) := by decide +kernel
theorem d_St_cycle_36 : decode b_St_cycle 36 = .ok (.if_icmp .ne 13, 3) := by decide +kernel
theorem d_St_cycle_39 : decode b_St_cycle 39 = .ok (.new 151, 3) := by decide +kernel
theorem d_St_cycle_42 : decode b_St_cycle 42 = .ok (.dup, 1) := by decide +kernel
theorem d_St_cycle_43 : decode b_St_cycle 43 = .ok (.ldc 195, 2) := by decide +kernel
theorem d_St_cycle_45 : decode b_St_cycle 45 = .ok (.invokespecial 155, 3) := by decide +kernel
theorem d_St_cycle_48 : decode b_St_cycle 48 = .ok (.athrow, 1) := by decide +kernel
theorem d_St_cycle_49 : decode b_St_cycle 49 = .ok (.iload_n 3, 1) := by decide +kernel
theorem d_St_cycle_50 : decode b_St_cycle 50 = .ok (.ireturn, 1) := by decide +kernel
theorem d_St_show_0 : decode b_St_show 0 = .ok (.aload_n 0, 1) := by decide +kernel
theorem d_St_show_1 : decode b_St_show 1 = .ok (.invokevirtual 111, 3) := by decide +kernel
theorem d_St_show_4 : decode b_St_show 4 = .ok (.aload_n 0, 1) := by decide +kernel
theorem d_St_show_5 : decode b_St_show 5 = .ok (.getfield 44, 3) := by decide +kernel
theorem d_St_show_8 : decode b_St_show 8 = .ok (.aload_n 0, 1) := by decide +kernel
theorem d_St_show_9 : decode b_St_show 9 = .ok (.getfield 12, 3) := by decide +kernel
theorem d_St_show_12 : decode b_St_show 12 = .ok (.invokevirtual 197, 3) := by decide +kernel
theorem d_St_show_15 : decode b_St_show 15 = .ok (.aload_n 0, 1) := by decide +kernel
theorem d_St_show_16 : decode b_St_show 16 = .ok (.getfield 44, 3) := by decide +kernel
theorem d_St_show_19 : decode b_St_show 19 = .ok (.getfield 200, 3) := by decide +kernel
theorem d_St_show_22 : decode b_St_show 22 = .ok (.ireturn, 1) := by decide +kernel
theorem d_St_run_0 : decode b_St_run 0 = .ok (.iload_n 1, 1) := by decide +kernel
theorem d_St_run_1 : decode b_St_run 1 = .ok (.iconst 1, 1) := by decide +kernel
theorem d_St_run_2 : decode b_St_run 2 = .ok (.if_icmp .lt 9, 3) := by decide +kernel
theorem d_St_run_5 : decode b_St_run 5 = .ok (.iload_n 1, 1) := by decide +kernel
theorem d_St_run_6 : decode b_St_run 6 = .ok (.bipush 100, 2) := by decide +kernel
theorem d_St_run_8 : decode b_St_run 8 = .ok (.if_icmp .le 13, 3) := by decide +kernel
theorem d_St_run_11 : decode b_St_run 11 = .ok (.new 48, 3) := by decide +kernel
theorem d_St_run_14 : decode b_St_run 14 = .ok (.dup, 1) := by decide +kernel
theorem d_St_run_15 : decode b_St_run 15 = .ok (.ldc 202, 2) := by decide +kernel
theorem d_St_run_17 : decode b_St_run 17 = .ok (.invokespecial 52, 3) := by decide +kernel
theorem d_St_run_20 : decode b_St_run 20 = .ok (.athrow, 1) := by decide +kernel
theorem d_St_run_21 : decode b_St_run 21 = .ok (.aload_n 0, 1) := by decide +kernel
theorem d_St_run_22 : decode b_St_run 22 = .ok (.invokevirtual 204, 3) := by decide +kernel
theorem d_St_run_25 : decode b_St_run 25 = .ok (.aload_n 0, 1) := by decide +kernel
theorem d_St_run_26 : decode b_St_run 26 = .ok (.getfield 44, 3) := by decide +kernel
theorem d_St_run_29 : decode b_St_run 29 = .ok (.iload_n 1, 1) := by decide +kernel
theorem d_St_run_30 : decode b_St_run 30 = .ok (.invokevirtual 207, 3) := by decide +kernel
theorem d_St_run_33 : decode b_St_run 33 = .ok (.ireturn, 1) := by decide +kernel
theorem d_St_requireShown_0 : decode b_St_requireShown 0 = .ok (.aload_n 0, 1) := by decide +kernel
theorem d_St_requireShown_1 : decode b_St_requireShown 1 = .ok (.getfield 44, 3) := by decide +kernel
theorem d_St_requireShown_4 : decode b_St_requireShown 4 = .ok (.getfield 246, 3) := by decide +kernel
theorem d_St_requireShown_7 : decode b_St_requireShown 7 = .ok (.ifCond .ne 13, 3) := by decide +kernel
theorem d_St_requireShown_10 : decode b_St_requireShown 10 = .ok (.new 89, 3) := by decide +kernel
theorem d_St_requireShown_13 : decode b_St_requireShown 13 = .ok (.dup, 1) := by decide +kernel
theorem d_St_requireShown_14 : decode b_St_requireShown 14 = .ok (.ldc 249, 2) := by decide +kernel
theorem d_St_requireShown_16 : decode b_St_requireShown 16 = .ok (.invokespecial 93, 3) := by decide +kernel
theorem d_St_requireShown_19 : decode b_St_requireShown 19 = .ok (.athrow, 1) := by decide +kernel
theorem d_St_requireShown_20 : decode b_St_requireShown 20 = .ok (.return_, 1) := by decide +kernel
theorem d_St_ball_0 : decode b_St_ball 0 = .ok (.aload_n 0, 1) := by decide +kernel
theorem d_St_ball_1 : decode b_St_ball 1 = .ok (.iload_n 1, 1) := by decide +kernel
theorem d_St_ball_2 : decode b_St_ball 2 = .ok (.invokevirtual 210, 3) := by decide +kernel
theorem d_St_ball_5 : decode b_St_ball 5 = .ok (.aload_n 0, 1) := by decide +kernel
theorem d_St_ball_6 : decode b_St_ball 6 = .ok (.getfield 44, 3) := by decide +kernel
theorem d_St_ball_9 : decode b_St_ball 9 = .ok (.iload_n 1, 1) := by decide +kernel
theorem d_St_ball_10 : decode b_St_ball 10 = .ok (.invokevirtual 213, 3) := by decide +kernel
theorem d_St_ball_13 : decode b_St_ball 13 = .ok (.ireturn, 1) := by decide +kernel
theorem d_St_requireBall_0 : decode b_St_requireBall 0 = .ok (.iload_n 1, 1) := by decide +kernel
theorem d_St_requireBall_1 : decode b_St_requireBall 1 = .ok (.ifCond .lt 14, 3) := by decide +kernel
theorem d_St_requireBall_4 : decode b_St_requireBall 4 = .ok (.iload_n 1, 1) := by decide +kernel
theorem d_St_requireBall_5 : decode b_St_requireBall 5 = .ok (.aload_n 0, 1) := by decide +kernel
theorem d_St_requireBall_6 : decode b_St_requireBall 6 = .ok (.getfield 44, 3) := by decide +kernel
theorem d_St_requireBall_9 : decode b_St_requireBall 9 = .ok (.getfield 200, 3) := by decide +kernel
theorem d_St_requireBall_12 : decode b_St_requireBall 12 = .ok (.if_icmp .lt 13, 3) := by decide +kernel
theorem d_St_requireBall_15 : decode b_St_requireBall 15 = .ok (.new 133, 3) := by decide +kernel
theorem d_St_requireBall_18 : decode b_St_requireBall 18 = .ok (.dup, 1) := by decide +kernel
theorem d_St_requireBall_19 : decode b_St_requireBall 19 = .ok (.ldc 251, 2) := by decide +kernel
theorem d_St_requireBall_21 : decode b_St_requireBall 21 = .ok (.invokespecial 137, 3) := by decide +kernel
theorem d_St_requireBall_24 : decode b_St_requireBall 24 = .ok (.athrow, 1) := by decide +kernel
theorem d_St_requireBall_25 : decode b_St_requireBall 25 = .ok (.return_, 1) := by decide +kernel
theorem d_St_hand_0 : decode b_St_hand 0 = .ok (.aload_n 0, 1) := by decide +kernel
theorem d_St_hand_1 : decode b_St_hand 1 = .ok (.iload_n 1, 1) := by decide +kernel
theorem d_St_hand_2 : decode b_St_hand 2 = .ok (.invokevirtual 210, 3) := by decide +kernel
theorem d_St_hand_5 : decode b_St_hand 5 = .ok (.aload_n 0, 1) := by decide +kernel
theorem d_St_hand_6 : decode b_St_hand 6 = .ok (.getfield 44, 3) := by decide +kernel
theorem d_St_hand_9 : decode b_St_hand 9 = .ok (.iload_n 1, 1) := by decide +kernel
theorem d_St_hand_10 : decode b_St_hand 10 = .ok (.invokevirtual 216, 3) := by decide +kernel
theorem d_St_hand_13 : decode b_St_hand 13 = .ok (.ireturn, 1) := by decide +kernel
theorem d_St_floor_0 : decode b_St_floor 0 = .ok (.iload_n 1, 1) := by decide +kernel
theorem d_St_floor_1 : decode b_St_floor 1 = .ok (.ifCond .lt 8, 3) := by decide +kernel
theorem d_St_floor_4 : decode b_St_floor 4 = .ok (.iload_n 1, 1) := by decide +kernel
theorem d_St_floor_5 : decode b_St_floor 5 = .ok (.iconst 4, 1) := by decide +kernel
theorem d_St_floor_6 : decode b_St_floor 6 = .ok (.if_icmp .le 13, 3) := by decide +kernel
theorem d_St_floor_9 : decode b_St_floor 9 = .ok (.new 133, 3) := by decide +kernel
theorem d_St_floor_12 : decode b_St_floor 12 = .ok (.dup, 1) := by decide +kernel
theorem d_St_floor_13 : decode b_St_floor 13 = .ok (.ldc 222, 2) := by decide +kernel
theorem d_St_floor_15 : decode b_St_floor 15 = .ok (.invokespecial 137, 3) := by decide +kernel
theorem d_St_floor_18 : decode b_St_floor 18 = .ok (.athrow, 1) := by decide +kernel
theorem d_St_floor_19 : decode b_St_floor 19 = .ok (.aload_n 0, 1) := by decide +kernel
theorem d_St_floor_20 : decode b_St_floor 20 = .ok (.invokevirtual 204, 3) := by decide +kernel
theorem d_St_floor_23 : decode b_St_floor 23 = .ok (.iload_n 1, 1) := by decide +kernel
theorem d_St_floor_24 : decode b_St_floor 24 = .ok (.tableswitch 66 0 3 #[32, 40, 49, 58], 32) := by decide +kernel
theorem d_St_floor_56 : decode b_St_floor 56 = .ok (.aload_n 0, 1) := by decide +kernel
theorem d_St_floor_57 : decode b_St_floor 57 = .ok (.getfield 44, 3) := by decide +kernel
theorem d_St_floor_60 : decode b_St_floor 60 = .ok (.getfield 224, 3) := by decide +kernel
theorem d_St_floor_63 : decode b_St_floor 63 = .ok (.ireturn, 1) := by decide +kernel
theorem d_St_floor_64 : decode b_St_floor 64 = .ok (.aload_n 0, 1) := by decide +kernel
theorem d_St_floor_65 : decode b_St_floor 65 = .ok (.getfield 44, 3) := by decide +kernel
theorem d_St_floor_68 : decode b_St_floor 68 = .ok (.iconst 0, 1) := by decide +kernel
theorem d_St_floor_69 : decode b_St_floor 69 = .ok (.invokevirtual 227, 3) := by decide +kernel
theorem d_St_floor_72 : decode b_St_floor 72 = .ok (.ireturn, 1) := by decide +kernel
theorem d_St_floor_73 : decode b_St_floor 73 = .ok (.aload_n 0, 1) := by decide +kernel
theorem d_St_floor_74 : decode b_St_floor 74 = .ok (.getfield 44, 3) := by decide +kernel
theorem d_St_floor_77 : decode b_St_floor 77 = .ok (.iconst 1, 1) := by decide +kernel
theorem d_St_floor_78 : decode b_St_floor 78 = .ok (.invokevirtual 227, 3) := by decide +kernel
theorem d_St_floor_81 : decode b_St_floor 81 = .ok (.ireturn, 1) := by decide +kernel
theorem d_St_floor_82 : decode b_St_floor 82 = .ok (.aload_n 0, 1) := by decide +kernel
theorem d_St_floor_83 : decode b_St_floor 83 = .ok (.getfield 44, 3) := by decide +kernel
theorem d_St_floor_86 : decode b_St_floor 86 = .ok (.getfield 200, 3) := by decide +kernel
theorem d_St_floor_89 : decode b_St_floor 89 = .ok (.ireturn, 1) := by decide +kernel
theorem d_St_floor_90 : decode b_St_floor 90 = .ok (.aload_n 0, 1) := by decide +kernel
theorem d_St_floor_91 : decode b_St_floor 91 = .ok (.getfield 44, 3) := by decide +kernel
theorem d_St_floor_94 : decode b_St_floor 94 = .ok (.getfield 230, 3) := by decide +kernel
theorem d_St_floor_97 : decode b_St_floor 97 = .ok (.getfield 76, 3) := by decide +kernel
theorem d_St_floor_100 : decode b_St_floor 100 = .ok (.ireturn, 1) := by decide +kernel
end
section
/-- a draft at cell i -/
def jD (h : Nat → va_E) (i : Nat) (m p : Int) (hs cs xs sc : Nat → Int) : Prop :=
  h i = jO 2 [.ref (i + 1), .ref (i + 2), .ref (i + 3), .ref (i + 4), .int (zI m), .int (zI p)] ∧ h (i + 1) = jI 48 (fun j => zI (hs j)) ∧ h (i + 2) = jI 16 (fun j => zI (cs j)) ∧ h (i + 3) = jI 16 (fun j => zI (xs j)) ∧ h (i + 4) = jI 16 (fun j => zI (sc j))
/-- the site that a hand throws from at beat b, -1 when it rests -/
def sp_thr (m p b k : Int) : Int := if m = 2 then (if b % 2 = 1 then -1 else b % p + k) else (if k = b % 2 then b % p else -1)
/-- the hand in which a throw of site b, made by hand k, lands at beat g -/
def sp_land (m : Int) (xs : Nat → Int) (b k g : Int) : Int := if m = 2 then (if xs b.toNat = 0 then k else 1 - k) else g % 2
/-- the site at which a throw of height k of site b lands -/
def sp_tgt (m p : Int) (xs : Nat → Int) (b k : Int) : Int := if m = 2 then (b - b % 2 + k) % p + sp_land m xs b (b % 2) (b - b % 2 + k) else (b + k) % p
theorem jk_eq {Kr : Option Value → Nat → (Nat → va_E) → Prop} {n : Nat} {h : Nat → va_E} {a b : Int} (hk : Kr (some (.int (zI a))) n h) (e : a = b) : Kr (some (.int (zI b))) n h := e ▸ hk
set_option maxHeartbeats 4000000 in
set_option maxRecDepth 100000 in
/-- isOdd(b): b modulo 2 -/
theorem c_isOdd {l : Launch} {G : jl_G} {d n : Nat} {h : Nat → va_E} {Kr : Option Value → Nat → (Nat → va_E) → Prop} {Kx : String → Nat → (Nat → va_E) → Prop} (hl9 : l.stackTraces = false) (hdd : 0 ≤ d) {b : Int} (hb : zR b) (hk : Kr (some (.int (zI (b % 2)))) n h) : jl_Call l G m_St_isOdd d [.int (zI (b))] n h 0 0 Kr Kx := by
  refine jl_enter hl9 (by decide) rfl (by simp [Value.category]) (Nat.le_of_ble_eq_true rfl) ?_
  show jl_AW l G (jl_F G Kr Kx) m_St_isOdd d 0 [some (.int (zI (b)))] [] n h 0 0
  refine jl_iload_n d_St_isOdd_0 rfl rfl ?_
  refine jl_iconst (v := zI (1)) d_St_isOdd_1 (by decide) ?_
  refine jl_iand d_St_isOdd_2 (jz_int (zI_odd _ hb) ?_)
  refine jz_if_eq (tgt := 10) d_St_isOdd_3 (by decide) ⟨by omega, by omega⟩ (fun hc => ?_) (fun hc => ?_)
  · refine jl_iconst (v := zI (0)) d_St_isOdd_10 (by decide) ?_
    exact jl_zret d_St_isOdd_11 rfl (by decide) (by have e1 : b % 2 = 0 := hc; rw [e1] at hk; exact hk)
  · refine jl_iconst (v := zI (1)) d_St_isOdd_6 (by decide) ?_
    refine jl_goto (tgt := 11) d_St_isOdd_7 (by decide) ?_
    exact jl_zret d_St_isOdd_11 rfl (by decide) (by have e1 : b % 2 = 1 := (by omega); rw [e1] at hk; exact hk)
set_option maxHeartbeats 4000000 in
set_option maxRecDepth 100000 in
/-- wrap(b, p): b modulo p -/
theorem c_wrap {l : Launch} {G : jl_G} {d n : Nat} {h : Nat → va_E} {Kr : Option Value → Nat → (Nat → va_E) → Prop} {Kx : String → Nat → (Nat → va_E) → Prop} (hl9 : l.stackTraces = false) (hdd : 0 ≤ d) {b p : Int} (hb : -2147483648 < b ∧ b < 2147483648) (hp : 1 ≤ p ∧ p < 2147483648) (hk : Kr (some (.int (zI (b % p)))) n h) : jl_Call l G m_St_wrap d [.int (zI (b)), .int (zI (p))] n h 0 0 Kr Kx := by
  refine jl_enter hl9 (by decide) rfl (by simp [Value.category]) (Nat.le_of_ble_eq_true rfl) ?_
  show jl_AW l G (jl_F G Kr Kx) m_St_wrap d 0 [some (.int (zI (b))), some (.int (zI (p))), none] [] n h 0 0
  refine jl_iload_n d_St_wrap_0 rfl rfl ?_
  refine jl_iconst (v := zI (1)) d_St_wrap_1 (by decide) ?_
  refine jz_icmp_ge (tgt := 7) d_St_wrap_2 (by decide) ⟨by omega, by omega⟩ ⟨by omega, by omega⟩ (fun hc => ?_) (fun hc => ?_)
  · refine jl_iload_n d_St_wrap_7 rfl rfl ?_
    refine jl_iload_n d_St_wrap_8 rfl rfl ?_
    refine jz_irem (v := b.tmod p) d_St_wrap_9 hb ⟨by omega, by omega⟩ (by omega) rfl ?_
    have ht := jn_tmod b hp.1
    have hz := tmod_bounds (a := b) (show 0 < p by omega)
    refine jl_istore_n (L' := [some (.int (zI (b))), some (.int (zI (p))), some (.int (zI (b.tmod p)))]) d_St_wrap_10 rfl (by decide) rfl ?_
    refine jl_iload_n d_St_wrap_11 rfl rfl ?_
    refine jz_if_ge (tgt := 21) d_St_wrap_12 (by decide) ⟨by omega, by omega⟩ (fun hc2 => ?_) (fun hc2 => ?_)
    · refine jl_iload_n d_St_wrap_21 rfl rfl ?_
      exact jl_iret d_St_wrap_22 rfl (by rw [ht.1 hc2]; exact hk)
    · refine jl_iload_n d_St_wrap_15 rfl rfl ?_
      refine jl_iload_n d_St_wrap_16 rfl rfl ?_
      refine jz_iadd (v := b % p) d_St_wrap_17 (ht.2 hc2) ?_
      refine jl_goto (tgt := 22) d_St_wrap_18 (by decide) ?_
      exact jl_iret d_St_wrap_22 rfl hk
  · omega
set_option maxHeartbeats 4000000 in
set_option maxRecDepth 100000 in
theorem c_D_hasSite {l : Launch} {G : jl_G} {d n : Nat} {h : Nat → va_E} {Kr : Option Value → Nat → (Nat → va_E) → Prop} {Kx : String → Nat → (Nat → va_E) → Prop} (hl9 : l.stackTraces = false) (hdd : 0 ≤ d) {i : Nat} {m p : Int} {hs cs xs sc : Nat → Int} {b : Int} (hD : jD h i m p hs cs xs sc) (hb : zR b) (hp : 1 ≤ p ∧ p ≤ 16) (h1 : 0 ≤ b ∧ b < p → Kr (some (.int (zI (1)))) n h) (h0 : ¬ (0 ≤ b ∧ b < p) → Kr (some (.int (zI (0)))) n h) : jl_Call l G m_Dr_hasSite d [.ref (i), .int (zI (b))] n h 0 0 Kr Kx := by
  refine jl_enter hl9 (by decide) rfl (by simp [Value.category]) (Nat.le_of_ble_eq_true rfl) ?_
  show jl_AW l G (jl_F G Kr Kx) m_Dr_hasSite d 0 [some (.ref (i)), some (.int (zI (b)))] [] n h 0 0
  obtain ⟨hd0, hd1, hd2, hd3, hd4⟩ := hD
  refine jl_iload_n d_Dr_hasSite_0 rfl rfl ?_
  refine jz_if_lt (tgt := 16) d_Dr_hasSite_1 (by decide) ⟨by omega, by omega⟩ (fun hc => ?_) (fun hc => ?_)
  · refine jl_iconst (v := zI (0)) d_Dr_hasSite_16 (by decide) ?_
    exact jl_zret d_Dr_hasSite_17 rfl (by decide) (h0 (by omega))
  · refine jl_iload_n d_Dr_hasSite_4 rfl rfl ?_
    refine jl_aload_n d_Dr_hasSite_5 rfl rfl ?_
    refine jg_2 (q := 5) d_Dr_hasSite_6 hd0 rfl (by decide) fw_Dr_28 ?_
    refine jz_icmp_ge (tgt := 16) d_Dr_hasSite_9 (by decide) ⟨by omega, by omega⟩ ⟨by omega, by omega⟩ (fun hc2 => ?_) (fun hc2 => ?_)
    · refine jl_iconst (v := zI (0)) d_Dr_hasSite_16 (by decide) ?_
      exact jl_zret d_Dr_hasSite_17 rfl (by decide) (h0 (by omega))
    · refine jl_iconst (v := zI (1)) d_Dr_hasSite_12 (by decide) ?_
      refine jl_goto (tgt := 17) d_Dr_hasSite_13 (by decide) ?_
      exact jl_zret d_Dr_hasSite_17 rfl (by decide) (h1 (by omega))
set_option maxHeartbeats 4000000 in
set_option maxRecDepth 100000 in
theorem c_D_throwsOf {l : Launch} {G : jl_G} {d n : Nat} {h : Nat → va_E} {Kr : Option Value → Nat → (Nat → va_E) → Prop} {Kx : String → Nat → (Nat → va_E) → Prop} (hl9 : l.stackTraces = false) (hdd : 0 ≤ d) {i : Nat} {m p : Int} {hs cs xs sc : Nat → Int} {b : Int} (hD : jD h i m p hs cs xs sc) (hb : 0 ≤ b ∧ b < 16) (hk : Kr (some (.int (zI (cs (b).toNat)))) n h) : jl_Call l G m_Dr_throwsOf d [.ref (i), .int (zI (b))] n h 0 0 Kr Kx := by
  refine jl_enter hl9 (by decide) rfl (by simp [Value.category]) (Nat.le_of_ble_eq_true rfl) ?_
  show jl_AW l G (jl_F G Kr Kx) m_Dr_throwsOf d 0 [some (.ref (i)), some (.int (zI (b)))] [] n h 0 0
  obtain ⟨hd0, hd1, hd2, hd3, hd4⟩ := hD
  refine jl_aload_n d_Dr_throwsOf_0 rfl rfl ?_
  refine jg_2 (q := 1) d_Dr_throwsOf_1 hd0 rfl (by decide) fw_Dr_15 ?_
  refine jl_iload_n d_Dr_throwsOf_4 rfl rfl ?_
  refine jz_iald d_Dr_throwsOf_5 hd2 (by omega) (by omega) (by decide) ?_
  exact jl_iret d_Dr_throwsOf_6 rfl hk
set_option maxHeartbeats 4000000 in
set_option maxRecDepth 100000 in
theorem c_D_crossingOf {l : Launch} {G : jl_G} {d n : Nat} {h : Nat → va_E} {Kr : Option Value → Nat → (Nat → va_E) → Prop} {Kx : String → Nat → (Nat → va_E) → Prop} (hl9 : l.stackTraces = false) (hdd : 0 ≤ d) {i : Nat} {m p : Int} {hs cs xs sc : Nat → Int} {b : Int} (hD : jD h i m p hs cs xs sc) (hb : 0 ≤ b ∧ b < 16) (hk : Kr (some (.int (zI (xs (b).toNat)))) n h) : jl_Call l G m_Dr_crossingOf d [.ref (i), .int (zI (b))] n h 0 0 Kr Kx := by
  refine jl_enter hl9 (by decide) rfl (by simp [Value.category]) (Nat.le_of_ble_eq_true rfl) ?_
  show jl_AW l G (jl_F G Kr Kx) m_Dr_crossingOf d 0 [some (.ref (i)), some (.int (zI (b)))] [] n h 0 0
  obtain ⟨hd0, hd1, hd2, hd3, hd4⟩ := hD
  refine jl_aload_n d_Dr_crossingOf_0 rfl rfl ?_
  refine jg_2 (q := 2) d_Dr_crossingOf_1 hd0 rfl (by decide) fw_Dr_18 ?_
  refine jl_iload_n d_Dr_crossingOf_4 rfl rfl ?_
  refine jz_iald d_Dr_crossingOf_5 hd3 (by omega) (by omega) (by decide) ?_
  exact jl_iret d_Dr_crossingOf_6 rfl hk
set_option maxHeartbeats 4000000 in
set_option maxRecDepth 100000 in
theorem c_D_heightOf {l : Launch} {G : jl_G} {d n : Nat} {h : Nat → va_E} {Kr : Option Value → Nat → (Nat → va_E) → Prop} {Kx : String → Nat → (Nat → va_E) → Prop} (hl9 : l.stackTraces = false) (hdd : 0 ≤ d) {i : Nat} {m p : Int} {hs cs xs sc : Nat → Int} {b k : Int} (hD : jD h i m p hs cs xs sc) (hb : 0 ≤ b ∧ b < 16) (hk9 : 0 ≤ k ∧ k < 3) (hk : Kr (some (.int (zI (hs (b * 3 + k).toNat)))) n h) : jl_Call l G m_Dr_heightOf d [.ref (i), .int (zI (b)), .int (zI (k))] n h 0 0 Kr Kx := by
  refine jl_enter hl9 (by decide) rfl (by simp [Value.category]) (Nat.le_of_ble_eq_true rfl) ?_
  show jl_AW l G (jl_F G Kr Kx) m_Dr_heightOf d 0 [some (.ref (i)), some (.int (zI (b))), some (.int (zI (k)))] [] n h 0 0
  obtain ⟨hd0, hd1, hd2, hd3, hd4⟩ := hD
  refine jl_aload_n d_Dr_heightOf_0 rfl rfl ?_
  refine jg_2 (q := 0) d_Dr_heightOf_1 hd0 rfl (by decide) fw_Dr_9 ?_
  refine jl_iload_n d_Dr_heightOf_4 rfl rfl ?_
  refine jl_iconst (v := zI (3)) d_Dr_heightOf_5 (by decide) ?_
  refine jz_imul (v := b * 3) d_Dr_heightOf_6 (by omega) ?_
  refine jl_iload_n d_Dr_heightOf_7 rfl rfl ?_
  refine jz_iadd (v := b * 3 + k) d_Dr_heightOf_8 (by omega) ?_
  refine jz_iald d_Dr_heightOf_9 hd1 (by omega) (by omega) (by decide) ?_
  exact jl_iret d_Dr_heightOf_10 rfl hk
set_option maxHeartbeats 4000000 in
set_option maxRecDepth 100000 in
theorem c_D_firstHeight {l : Launch} {G : jl_G} {d n : Nat} {h : Nat → va_E} {Kr : Option Value → Nat → (Nat → va_E) → Prop} {Kx : String → Nat → (Nat → va_E) → Prop} (hl9 : l.stackTraces = false) (hdd : 1 ≤ d) {i : Nat} {m p : Int} {hs cs xs sc : Nat → Int} {b : Int} (hD : jD h i m p hs cs xs sc) (hb : -2147483648 < b ∧ b < 2147483648) (hp : 1 ≤ p ∧ p ≤ 16) (hk : Kr (some (.int (zI (hs (b % p * 3).toNat)))) n h) : jl_Call l G m_Dr_firstHeight d [.ref (i), .int (zI (b))] n h 0 0 Kr Kx := by
  refine jl_enter hl9 (by decide) rfl (by simp [Value.category]) (Nat.le_of_ble_eq_true rfl) ?_
  show jl_AW l G (jl_F G Kr Kx) m_Dr_firstHeight d 0 [some (.ref (i)), some (.int (zI (b)))] [] n h 0 0
  obtain ⟨hd0, hd1, hd2, hd3, hd4⟩ := hD
  refine jl_aload_n d_Dr_firstHeight_0 rfl rfl ?_
  refine jg_2 (q := 0) d_Dr_firstHeight_1 hd0 rfl (by decide) fw_Dr_9 ?_
  refine jl_iload_n d_Dr_firstHeight_4 rfl rfl ?_
  refine jl_aload_n d_Dr_firstHeight_5 rfl rfl ?_
  refine jg_2 (q := 5) d_Dr_firstHeight_6 hd0 rfl (by decide) fw_Dr_28 ?_
  refine jl_invSN0 (M' := m_St_wrap) (d' := d - 1) (ck' := 0) (sk' := 0) (na := 2) (as := [.int (zI (b)), .int (zI (p))]) (st := [.ref (i + 1)]) d_Dr_firstHeight_9 rfl mw_Dr_43 ww_St_wrap nw_St cw_St_wrap rfl rfl (by decide +kernel) (by omega) (Nat.le_of_ble_eq_true rfl) (Nat.le_of_ble_eq_true rfl) ?_
  refine c_wrap hl9 (by omega) hb ⟨hp.1, by omega⟩ ?_
  show jl_AW _ _ _ _ _ 12 [some (.ref (i)), some (.int (zI (b)))] [.int (zI (b % p)), .ref (i + 1)] n h _ _
  have e0 := Int.emod_nonneg b (show p ≠ 0 by omega)
  have e1 := Int.emod_lt_of_pos b (show 0 < p by omega)
  refine jl_iconst (v := zI (3)) d_Dr_firstHeight_12 (by decide) ?_
  refine jz_imul (v := b % p * 3) d_Dr_firstHeight_13 (by omega) ?_
  refine jz_iald d_Dr_firstHeight_14 hd1 (by omega) (by omega) (by decide) ?_
  exact jl_iret d_Dr_firstHeight_15 rfl hk
set_option maxHeartbeats 4000000 in
set_option maxRecDepth 100000 in
theorem c_D_setFirst {l : Launch} {G : jl_G} {d n : Nat} {h : Nat → va_E} {Kr : Option Value → Nat → (Nat → va_E) → Prop} {Kx : String → Nat → (Nat → va_E) → Prop} (hl9 : l.stackTraces = false) (hdd : 0 ≤ d) {i : Nat} {m p : Int} {hs cs xs sc : Nat → Int} {b k c : Int} (hD : jD h i m p hs cs xs sc) (hb : 0 ≤ b ∧ b < 16) (hc9 : zR c) (hk : Kr none n (va_up (va_up h (i + 1) (jI 48 (fun j => zI (va_up hs (b * 3).toNat (k) j)))) (i + 3) (jI 16 (fun j => zI (va_up xs (b).toNat (if c = 0 then 0 else 16) j))))) : jl_Call l G m_Dr_setFirst d [.ref (i), .int (zI (b)), .int (zI (k)), .int (zI (c))] n h 0 0 Kr Kx := by
  refine jl_enter hl9 (by decide) rfl (by simp [Value.category]) (Nat.le_of_ble_eq_true rfl) ?_
  show jl_AW l G (jl_F G Kr Kx) m_Dr_setFirst d 0 [some (.ref (i)), some (.int (zI (b))), some (.int (zI (k))), some (.int (zI (c)))] [] n h 0 0
  obtain ⟨hd0, hd1, hd2, hd3, hd4⟩ := hD
  refine jl_aload_n d_Dr_setFirst_0 rfl rfl ?_
  refine jg_2 (q := 0) d_Dr_setFirst_1 hd0 rfl (by decide) fw_Dr_9 ?_
  refine jl_iload_n d_Dr_setFirst_4 rfl rfl ?_
  refine jl_iconst (v := zI (3)) d_Dr_setFirst_5 (by decide) ?_
  refine jz_imul (v := b * 3) d_Dr_setFirst_6 (by omega) ?_
  refine jl_iload_n d_Dr_setFirst_7 rfl rfl ?_
  refine jz_iasth d_Dr_setFirst_8 hd1 (by omega) (by omega) (by decide) (fun h1 eh1 => ?_)
  have jf2 : h1 (i + 1) = jI 48 (fun j => zI ((va_up hs (b * 3).toNat (k)) j)) := by rw [eh1, va_up_self]
  refine jl_aload_n d_Dr_setFirst_9 rfl rfl ?_
  have jf3 : h1 (i) = jO 2 [.ref (i + 1), .ref (i + 2), .ref (i + 3), .ref (i + 4), .int (zI (m)), .int (zI (p))] := by rw [eh1, va_up_ne _ _ (by omega)]; exact hd0
  refine jg_2 (q := 2) d_Dr_setFirst_10 jf3 rfl (by decide) fw_Dr_18 ?_
  refine jl_iload_n d_Dr_setFirst_13 rfl rfl ?_
  refine jl_iload_n d_Dr_setFirst_14 rfl rfl ?_
  refine jz_if_eq (tgt := 23) d_Dr_setFirst_15 (by decide) ⟨by omega, by omega⟩ (fun hc => ?_) (fun hc => ?_)
  · refine jl_iconst (v := zI (0)) d_Dr_setFirst_23 (by decide) ?_
    have jf4 : h1 (i + 3) = jI 16 (fun j => zI (xs j)) := by rw [eh1, va_up_ne _ _ (by omega)]; exact hd3
    refine jz_iasth d_Dr_setFirst_24 jf4 (by omega) (by omega) (by decide) (fun h5 eh5 => ?_)
    have jf6 : h5 (i + 3) = jI 16 (fun j => zI ((va_up xs (b).toNat (0)) j)) := by rw [eh5, va_up_self]
    refine jl_vret d_Dr_setFirst_25 rfl ?_
    have e9 : (if c = 0 then (0 : Int) else 16) = 0 := by simp [hc]
    rw [e9] at hk
    rw [eh5, eh1]
    exact hk
  · refine jl_bipush (v := zI (16)) d_Dr_setFirst_18 (by decide) ?_
    refine jl_goto (tgt := 24) d_Dr_setFirst_20 (by decide) ?_
    have jf4 : h1 (i + 3) = jI 16 (fun j => zI (xs j)) := by rw [eh1, va_up_ne _ _ (by omega)]; exact hd3
    refine jz_iasth d_Dr_setFirst_24 jf4 (by omega) (by omega) (by decide) (fun h5 eh5 => ?_)
    have jf6 : h5 (i + 3) = jI 16 (fun j => zI ((va_up xs (b).toNat (16)) j)) := by rw [eh5, va_up_self]
    refine jl_vret d_Dr_setFirst_25 rfl ?_
    have e9 : (if c = 0 then (0 : Int) else 16) = 16 := by simp [hc]
    rw [e9] at hk
    rw [eh5, eh1]
    exact hk
set_option maxHeartbeats 4000000 in
set_option maxRecDepth 100000 in
theorem c_D_append {l : Launch} {G : jl_G} {d n : Nat} {h : Nat → va_E} {Kr : Option Value → Nat → (Nat → va_E) → Prop} {Kx : String → Nat → (Nat → va_E) → Prop} (hl9 : l.stackTraces = false) (hdd : 0 ≤ d) {i : Nat} {m p : Int} {hs cs xs sc : Nat → Int} {b k : Int} (hD : jD h i m p hs cs xs sc) (hb : 0 ≤ b ∧ b < 16) (hcs : 0 ≤ cs (b).toNat ∧ cs (b).toNat < 3) (hk : Kr (some (.int (zI (cs (b).toNat + 1)))) n (va_up (va_up h (i + 1) (jI 48 (fun j => zI (va_up hs (b * 3 + cs (b).toNat).toNat (k) j)))) (i + 2) (jI 16 (fun j => zI (va_up cs (b).toNat (cs (b).toNat + 1) j))))) : jl_Call l G m_Dr_append d [.ref (i), .int (zI (b)), .int (zI (k))] n h 0 0 Kr Kx := by
  refine jl_enter hl9 (by decide) rfl (by simp [Value.category]) (Nat.le_of_ble_eq_true rfl) ?_
  show jl_AW l G (jl_F G Kr Kx) m_Dr_append d 0 [some (.ref (i)), some (.int (zI (b))), some (.int (zI (k)))] [] n h 0 0
  obtain ⟨hd0, hd1, hd2, hd3, hd4⟩ := hD
  refine jl_aload_n d_Dr_append_0 rfl rfl ?_
  refine jg_2 (q := 0) d_Dr_append_1 hd0 rfl (by decide) fw_Dr_9 ?_
  refine jl_iload_n d_Dr_append_4 rfl rfl ?_
  refine jl_iconst (v := zI (3)) d_Dr_append_5 (by decide) ?_
  refine jz_imul (v := b * 3) d_Dr_append_6 (by omega) ?_
  refine jl_aload_n d_Dr_append_7 rfl rfl ?_
  refine jg_2 (q := 1) d_Dr_append_8 hd0 rfl (by decide) fw_Dr_15 ?_
  refine jl_iload_n d_Dr_append_11 rfl rfl ?_
  refine jz_iald d_Dr_append_12 hd2 (by omega) (by omega) (by decide) ?_
  refine jz_iadd (v := b * 3 + cs (b).toNat) d_Dr_append_13 (by omega) ?_
  refine jl_iload_n d_Dr_append_14 rfl rfl ?_
  refine jz_iasth d_Dr_append_15 hd1 (by omega) (by omega) (by decide) (fun h1 eh1 => ?_)
  have jf2 : h1 (i + 1) = jI 48 (fun j => zI ((va_up hs (b * 3 + cs (b).toNat).toNat (k)) j)) := by rw [eh1, va_up_self]
  refine jl_aload_n d_Dr_append_16 rfl rfl ?_
  have jf3 : h1 (i) = jO 2 [.ref (i + 1), .ref (i + 2), .ref (i + 3), .ref (i + 4), .int (zI (m)), .int (zI (p))] := by rw [eh1, va_up_ne _ _ (by omega)]; exact hd0
  refine jg_2 (q := 1) d_Dr_append_17 jf3 rfl (by decide) fw_Dr_15 ?_
  refine jl_iload_n d_Dr_append_20 rfl rfl ?_
  refine jl_dup2 d_Dr_append_21 rfl rfl ?_
  have jf4 : h1 (i + 2) = jI 16 (fun j => zI (cs j)) := by rw [eh1, va_up_ne _ _ (by omega)]; exact hd2
  refine jz_iald d_Dr_append_22 jf4 (by omega) (by omega) (by decide) ?_
  refine jl_iconst (v := zI (1)) d_Dr_append_23 (by decide) ?_
  refine jz_iadd (v := cs (b).toNat + 1) d_Dr_append_24 (by omega) ?_
  refine jz_iasth d_Dr_append_25 jf4 (by omega) (by omega) (by decide) (fun h5 eh5 => ?_)
  have jf6 : h5 (i + 2) = jI 16 (fun j => zI ((va_up cs (b).toNat (cs (b).toNat + 1)) j)) := by rw [eh5, va_up_self]
  refine jl_aload_n d_Dr_append_26 rfl rfl ?_
  have jf7 : h5 (i) = jO 2 [.ref (i + 1), .ref (i + 2), .ref (i + 3), .ref (i + 4), .int (zI (m)), .int (zI (p))] := by rw [eh5, va_up_ne _ _ (by omega)]; exact jf3
  refine jg_2 (q := 1) d_Dr_append_27 jf7 rfl (by decide) fw_Dr_15 ?_
  refine jl_iload_n d_Dr_append_30 rfl rfl ?_
  refine jz_iald d_Dr_append_31 jf6 (by omega) (by omega) (by decide) ?_
  refine jl_iret d_Dr_append_32 rfl ?_
  rw [va_up_self, eh5, eh1]
  exact hk
set_option maxHeartbeats 4000000 in
set_option maxRecDepth 100000 in
theorem c_D_siteThrowing {l : Launch} {G : jl_G} {d n : Nat} {h : Nat → va_E} {Kr : Option Value → Nat → (Nat → va_E) → Prop} {Kx : String → Nat → (Nat → va_E) → Prop} (hl9 : l.stackTraces = false) (hdd : 1 ≤ d) {i : Nat} {m p : Int} {hs cs xs sc : Nat → Int} {b k : Int} (hD : jD h i m p hs cs xs sc) (hm : 0 ≤ m ∧ m ≤ 2) (hp : 1 ≤ p ∧ p ≤ 16) (hb : -2147483648 < b ∧ b < 2147483648) (hk9 : zR k) (hk : Kr (some (.int (zI (sp_thr m p b k)))) n h) : jl_Call l G m_Dr_siteThrowing d [.ref (i), .int (zI (b)), .int (zI (k))] n h 0 0 Kr Kx := by
  refine jl_enter hl9 (by decide) rfl (by simp [Value.category]) (Nat.le_of_ble_eq_true rfl) ?_
  show jl_AW l G (jl_F G Kr Kx) m_Dr_siteThrowing d 0 [some (.ref (i)), some (.int (zI (b))), some (.int (zI (k)))] [] n h 0 0
  obtain ⟨hd0, hd1, hd2, hd3, hd4⟩ := hD
  refine jl_aload_n d_Dr_siteThrowing_0 rfl rfl ?_
  refine jg_2 (q := 4) d_Dr_siteThrowing_1 hd0 rfl (by decide) fw_Dr_24 ?_
  refine jl_iconst (v := zI (2)) d_Dr_siteThrowing_4 (by decide) ?_
  refine jz_icmp_ne (tgt := 30) d_Dr_siteThrowing_5 (by decide) ⟨by omega, by omega⟩ ⟨by omega, by omega⟩ (fun hc => ?_) (fun hc => ?_)
  · refine jl_iload_n d_Dr_siteThrowing_30 rfl rfl ?_
    refine jl_iload_n d_Dr_siteThrowing_31 rfl rfl ?_
    refine jl_iconst (v := zI (2)) d_Dr_siteThrowing_32 (by decide) ?_
    refine jl_invSN0 (M' := m_St_wrap) (d' := d - 1) (ck' := 0) (sk' := 0) (na := 2) (as := [.int (zI (b)), .int (zI (2))]) (st := [.int (zI (k))]) d_Dr_siteThrowing_33 rfl mw_Dr_43 ww_St_wrap nw_St cw_St_wrap rfl rfl (by decide +kernel) (by omega) (Nat.le_of_ble_eq_true rfl) (Nat.le_of_ble_eq_true rfl) ?_
    refine c_wrap hl9 (by omega) hb ⟨by decide, by decide⟩ ?_
    show jl_AW _ _ _ _ _ 36 [some (.ref (i)), some (.int (zI (b))), some (.int (zI (k)))] [.int (zI (b % 2)), .int (zI (k))] n h _ _
    refine jz_icmp_ne (tgt := 50) d_Dr_siteThrowing_36 (by decide) ⟨by omega, by omega⟩ ⟨by omega, by omega⟩ (fun hc2 => ?_) (fun hc2 => ?_)
    · refine jl_iconst (v := zI (-1)) d_Dr_siteThrowing_50 (by decide) ?_
      exact jl_iret d_Dr_siteThrowing_51 rfl (jk_eq hk (by unfold sp_thr; rw [if_neg hc, if_neg hc2]))
    · refine jl_iload_n d_Dr_siteThrowing_39 rfl rfl ?_
      refine jl_aload_n d_Dr_siteThrowing_40 rfl rfl ?_
      refine jg_2 (q := 5) d_Dr_siteThrowing_41 hd0 rfl (by decide) fw_Dr_28 ?_
      refine jl_invSN0 (M' := m_St_wrap) (d' := d - 1) (ck' := 0) (sk' := 0) (na := 2) (as := [.int (zI (b)), .int (zI (p))]) (st := []) d_Dr_siteThrowing_44 rfl mw_Dr_43 ww_St_wrap nw_St cw_St_wrap rfl rfl (by decide +kernel) (by omega) (Nat.le_of_ble_eq_true rfl) (Nat.le_of_ble_eq_true rfl) ?_
      refine c_wrap hl9 (by omega) hb ⟨hp.1, by omega⟩ ?_
      show jl_AW _ _ _ _ _ 47 [some (.ref (i)), some (.int (zI (b))), some (.int (zI (k)))] [.int (zI (b % p))] n h _ _
      refine jl_goto (tgt := 51) d_Dr_siteThrowing_47 (by decide) ?_
      exact jl_iret d_Dr_siteThrowing_51 rfl (jk_eq hk (by unfold sp_thr; rw [if_neg hc, if_pos hc2]))
  · refine jl_iload_n d_Dr_siteThrowing_8 rfl rfl ?_
    refine jl_invSN0 (M' := m_St_isOdd) (d' := d - 1) (ck' := 0) (sk' := 0) (na := 1) (as := [.int (zI (b))]) (st := []) d_Dr_siteThrowing_9 rfl mw_Dr_47 ww_St_isOdd nw_St cw_St_isOdd rfl rfl (by decide +kernel) (by omega) (Nat.le_of_ble_eq_true rfl) (Nat.le_of_ble_eq_true rfl) ?_
    refine c_isOdd hl9 (by omega) ⟨by omega, by omega⟩ ?_
    show jl_AW _ _ _ _ _ 12 [some (.ref (i)), some (.int (zI (b))), some (.int (zI (k)))] [.int (zI (b % 2))] n h _ _
    refine jz_if_eq (tgt := 19) d_Dr_siteThrowing_12 (by decide) ⟨by omega, by omega⟩ (fun hc2 => ?_) (fun hc2 => ?_)
    · refine jl_iload_n d_Dr_siteThrowing_19 rfl rfl ?_
      refine jl_aload_n d_Dr_siteThrowing_20 rfl rfl ?_
      refine jg_2 (q := 5) d_Dr_siteThrowing_21 hd0 rfl (by decide) fw_Dr_28 ?_
      refine jl_invSN0 (M' := m_St_wrap) (d' := d - 1) (ck' := 0) (sk' := 0) (na := 2) (as := [.int (zI (b)), .int (zI (p))]) (st := []) d_Dr_siteThrowing_24 rfl mw_Dr_43 ww_St_wrap nw_St cw_St_wrap rfl rfl (by decide +kernel) (by omega) (Nat.le_of_ble_eq_true rfl) (Nat.le_of_ble_eq_true rfl) ?_
      refine c_wrap hl9 (by omega) hb ⟨hp.1, by omega⟩ ?_
      show jl_AW _ _ _ _ _ 27 [some (.ref (i)), some (.int (zI (b))), some (.int (zI (k)))] [.int (zI (b % p))] n h _ _
      refine jl_iload_n d_Dr_siteThrowing_27 rfl rfl ?_
      refine jz_iadd (v := (b % p) + (k)) d_Dr_siteThrowing_28 rfl ?_
      exact jl_iret d_Dr_siteThrowing_29 rfl (jk_eq hk (by unfold sp_thr; rw [if_pos hc, if_neg (by omega)]))
    · refine jl_iconst (v := zI (-1)) d_Dr_siteThrowing_15 (by decide) ?_
      refine jl_goto (tgt := 29) d_Dr_siteThrowing_16 (by decide) ?_
      exact jl_iret d_Dr_siteThrowing_29 rfl (jk_eq hk (by unfold sp_thr; rw [if_pos hc, if_pos (by omega)]))
set_option maxHeartbeats 4000000 in
set_option maxRecDepth 100000 in
theorem c_D_landingHand {l : Launch} {G : jl_G} {d n : Nat} {h : Nat → va_E} {Kr : Option Value → Nat → (Nat → va_E) → Prop} {Kx : String → Nat → (Nat → va_E) → Prop} (hl9 : l.stackTraces = false) (hdd : 1 ≤ d) {i : Nat} {m p : Int} {hs cs xs sc : Nat → Int} {b k g : Int} (hD : jD h i m p hs cs xs sc) (hm : 0 ≤ m ∧ m ≤ 2) (hb : 0 ≤ b ∧ b < 16) (hxs : zR (xs (b).toNat)) (hg : -2147483648 < g ∧ g < 2147483648) (hk : Kr (some (.int (zI (sp_land m xs b k g)))) n h) : jl_Call l G m_Dr_landingHand d [.ref (i), .int (zI (b)), .int (zI (k)), .int (zI (g))] n h 0 0 Kr Kx := by
  refine jl_enter hl9 (by decide) rfl (by simp [Value.category]) (Nat.le_of_ble_eq_true rfl) ?_
  show jl_AW l G (jl_F G Kr Kx) m_Dr_landingHand d 0 [some (.ref (i)), some (.int (zI (b))), some (.int (zI (k))), some (.int (zI (g)))] [] n h 0 0
  obtain ⟨hd0, hd1, hd2, hd3, hd4⟩ := hD
  refine jl_aload_n d_Dr_landingHand_0 rfl rfl ?_
  refine jg_2 (q := 4) d_Dr_landingHand_1 hd0 rfl (by decide) fw_Dr_24 ?_
  refine jl_iconst (v := zI (2)) d_Dr_landingHand_4 (by decide) ?_
  refine jz_icmp_eq (tgt := 14) d_Dr_landingHand_5 (by decide) ⟨by omega, by omega⟩ ⟨by omega, by omega⟩ (fun hc => ?_) (fun hc => ?_)
  · refine jl_aload_n d_Dr_landingHand_14 rfl rfl ?_
    refine jg_2 (q := 2) d_Dr_landingHand_15 hd0 rfl (by decide) fw_Dr_18 ?_
    refine jl_iload_n d_Dr_landingHand_18 rfl rfl ?_
    refine jz_iald d_Dr_landingHand_19 hd3 (by omega) (by omega) (by decide) ?_
    refine jz_if_eq (tgt := 29) d_Dr_landingHand_20 (by decide) ⟨by omega, by omega⟩ (fun hc2 => ?_) (fun hc2 => ?_)
    · refine jl_iload_n d_Dr_landingHand_29 rfl rfl ?_
      exact jl_iret d_Dr_landingHand_30 rfl (jk_eq hk (by unfold sp_land; rw [if_pos hc, if_pos hc2]))
    · refine jl_iconst (v := zI (1)) d_Dr_landingHand_23 (by decide) ?_
      refine jl_iload_n d_Dr_landingHand_24 rfl rfl ?_
      refine jz_isub (v := 1 - k) d_Dr_landingHand_25 (by omega) ?_
      refine jl_goto (tgt := 30) d_Dr_landingHand_26 (by decide) ?_
      exact jl_iret d_Dr_landingHand_30 rfl (jk_eq hk (by unfold sp_land; rw [if_pos hc, if_neg hc2]))
  · refine jl_iload_n d_Dr_landingHand_8 rfl rfl ?_
    refine jl_iconst (v := zI (2)) d_Dr_landingHand_9 (by decide) ?_
    refine jl_invSN0 (M' := m_St_wrap) (d' := d - 1) (ck' := 0) (sk' := 0) (na := 2) (as := [.int (zI (g)), .int (zI (2))]) (st := []) d_Dr_landingHand_10 rfl mw_Dr_43 ww_St_wrap nw_St cw_St_wrap rfl rfl (by decide +kernel) (by omega) (Nat.le_of_ble_eq_true rfl) (Nat.le_of_ble_eq_true rfl) ?_
    refine c_wrap hl9 (by omega) hg ⟨by decide, by decide⟩ ?_
    show jl_AW _ _ _ _ _ 13 [some (.ref (i)), some (.int (zI (b))), some (.int (zI (k))), some (.int (zI (g)))] [.int (zI (g % 2))] n h _ _
    exact jl_iret d_Dr_landingHand_13 rfl (jk_eq hk (by unfold sp_land; rw [if_neg hc]))
set_option maxHeartbeats 4000000 in
set_option maxRecDepth 100000 in
theorem c_D_landingSite {l : Launch} {G : jl_G} {d n : Nat} {h : Nat → va_E} {Kr : Option Value → Nat → (Nat → va_E) → Prop} {Kx : String → Nat → (Nat → va_E) → Prop} (hl9 : l.stackTraces = false) (hdd : 2 ≤ d) {i : Nat} {m p : Int} {hs cs xs sc : Nat → Int} {b k : Int} (hD : jD h i m p hs cs xs sc) (hm : 0 ≤ m ∧ m ≤ 2) (hp : 1 ≤ p ∧ p ≤ 16) (hb : 0 ≤ b ∧ b < 16) (hk9 : 0 ≤ k ∧ k ≤ 9) (hxs : zR (xs (b).toNat)) (hk : Kr (some (.int (zI (sp_tgt m p xs b k)))) n h) : jl_Call l G m_Dr_landingSite d [.ref (i), .int (zI (b)), .int (zI (k))] n h 0 0 Kr Kx := by
  refine jl_enter hl9 (by decide) rfl (by simp [Value.category]) (Nat.le_of_ble_eq_true rfl) ?_
  show jl_AW l G (jl_F G Kr Kx) m_Dr_landingSite d 0 [some (.ref (i)), some (.int (zI (b))), some (.int (zI (k))), none, none] [] n h 0 0
  obtain ⟨hd0, hd1, hd2, hd3, hd4⟩ := hD
  refine jl_aload_n d_Dr_landingSite_0 rfl rfl ?_
  refine jg_2 (q := 4) d_Dr_landingSite_1 hd0 rfl (by decide) fw_Dr_24 ?_
  refine jl_iconst (v := zI (2)) d_Dr_landingSite_4 (by decide) ?_
  refine jz_icmp_eq (tgt := 19) d_Dr_landingSite_5 (by decide) ⟨by omega, by omega⟩ ⟨by omega, by omega⟩ (fun hc => ?_) (fun hc => ?_)
  · refine jl_iload_n d_Dr_landingSite_19 rfl rfl ?_
    refine jl_iconst (v := zI (2)) d_Dr_landingSite_20 (by decide) ?_
    refine jl_invSN0 (M' := m_St_wrap) (d' := d - 1) (ck' := 0) (sk' := 0) (na := 2) (as := [.int (zI (b)), .int (zI (2))]) (st := []) d_Dr_landingSite_21 rfl mw_Dr_43 ww_St_wrap nw_St cw_St_wrap rfl rfl (by decide +kernel) (by omega) (Nat.le_of_ble_eq_true rfl) (Nat.le_of_ble_eq_true rfl) ?_
    refine c_wrap hl9 (by omega) ⟨by omega, by omega⟩ ⟨by decide, by decide⟩ ?_
    show jl_AW _ _ _ _ _ 24 [some (.ref (i)), some (.int (zI (b))), some (.int (zI (k))), none, none] [.int (zI (b % 2))] n h _ _
    refine jl_istore_n (L' := [some (.ref (i)), some (.int (zI (b))), some (.int (zI (k))), some (.int (zI (b % 2))), none]) d_Dr_landingSite_24 rfl (by decide) rfl ?_
    refine jl_iload_n d_Dr_landingSite_25 rfl rfl ?_
    refine jl_iload_n d_Dr_landingSite_26 rfl rfl ?_
    refine jz_isub (v := b - b % 2) d_Dr_landingSite_27 (by omega) ?_
    refine jl_iload_n d_Dr_landingSite_28 rfl rfl ?_
    refine jz_iadd (v := b - b % 2 + k) d_Dr_landingSite_29 (by omega) ?_
    refine jl_istore (L' := [some (.ref (i)), some (.int (zI (b))), some (.int (zI (k))), some (.int (zI (b % 2))), some (.int (zI (b - b % 2 + k)))]) d_Dr_landingSite_30 (by decide) rfl ?_
    refine jl_iload d_Dr_landingSite_32 rfl ?_
    refine jl_aload_n d_Dr_landingSite_34 rfl rfl ?_
    refine jg_2 (q := 5) d_Dr_landingSite_35 hd0 rfl (by decide) fw_Dr_28 ?_
    refine jl_invSN0 (M' := m_St_wrap) (d' := d - 1) (ck' := 0) (sk' := 0) (na := 2) (as := [.int (zI (b - b % 2 + k)), .int (zI (p))]) (st := []) d_Dr_landingSite_38 rfl mw_Dr_43 ww_St_wrap nw_St cw_St_wrap rfl rfl (by decide +kernel) (by omega) (Nat.le_of_ble_eq_true rfl) (Nat.le_of_ble_eq_true rfl) ?_
    refine c_wrap hl9 (by omega) ⟨by omega, by omega⟩ ⟨hp.1, by omega⟩ ?_
    show jl_AW _ _ _ _ _ 41 [some (.ref (i)), some (.int (zI (b))), some (.int (zI (k))), some (.int (zI (b % 2))), some (.int (zI (b - b % 2 + k)))] [.int (zI ((b - b % 2 + k) % p))] n h _ _
    refine jl_aload_n d_Dr_landingSite_41 rfl rfl ?_
    refine jl_iload_n d_Dr_landingSite_42 rfl rfl ?_
    refine jl_iload_n d_Dr_landingSite_43 rfl rfl ?_
    refine jl_iload d_Dr_landingSite_44 rfl ?_
    refine jl_invV (M' := m_Dr_landingHand) (d' := d - 1) (ck' := 0) (sk' := 0) (na := 3) (as := [.int (zI (b)), .int (zI (b % 2)), .int (zI (b - b % 2 + k))]) (st := [.int (zI ((b - b % 2 + k) % p))]) d_Dr_landingSite_46 rfl hd0 rfl mw_Dr_51 ww_Dr_landingHand sw_Dr_landingHand nw_Dr cw_Dr_landingHand rfl rfl rfl (by decide +kernel) (by omega) (Nat.le_of_ble_eq_true rfl) (Nat.le_of_ble_eq_true rfl) ?_
    refine c_D_landingHand hl9 (by omega) ⟨hd0, hd1, hd2, hd3, hd4⟩ hm hb hxs ⟨by omega, by omega⟩ ?_
    show jl_AW _ _ _ _ _ 49 [some (.ref (i)), some (.int (zI (b))), some (.int (zI (k))), some (.int (zI (b % 2))), some (.int (zI (b - b % 2 + k)))] [.int (zI (sp_land m xs b (b % 2) (b - b % 2 + k))), .int (zI ((b - b % 2 + k) % p))] n h _ _
    refine jz_iadd (v := ((b - b % 2 + k) % p) + (sp_land m xs b (b % 2) (b - b % 2 + k))) d_Dr_landingSite_49 rfl ?_
    exact jl_iret d_Dr_landingSite_50 rfl (jk_eq hk (by unfold sp_tgt; rw [if_pos hc]))
  · refine jl_iload_n d_Dr_landingSite_8 rfl rfl ?_
    refine jl_iload_n d_Dr_landingSite_9 rfl rfl ?_
    refine jz_iadd (v := b + k) d_Dr_landingSite_10 (by omega) ?_
    refine jl_aload_n d_Dr_landingSite_11 rfl rfl ?_
    refine jg_2 (q := 5) d_Dr_landingSite_12 hd0 rfl (by decide) fw_Dr_28 ?_
    refine jl_invSN0 (M' := m_St_wrap) (d' := d - 1) (ck' := 0) (sk' := 0) (na := 2) (as := [.int (zI (b + k)), .int (zI (p))]) (st := []) d_Dr_landingSite_15 rfl mw_Dr_43 ww_St_wrap nw_St cw_St_wrap rfl rfl (by decide +kernel) (by omega) (Nat.le_of_ble_eq_true rfl) (Nat.le_of_ble_eq_true rfl) ?_
    refine c_wrap hl9 (by omega) ⟨by omega, by omega⟩ ⟨hp.1, by omega⟩ ?_
    show jl_AW _ _ _ _ _ 18 [some (.ref (i)), some (.int (zI (b))), some (.int (zI (k))), none, none] [.int (zI ((b + k) % p))] n h _ _
    exact jl_iret d_Dr_landingSite_18 rfl (jk_eq hk (by unfold sp_tgt; rw [if_neg hc]))
end
