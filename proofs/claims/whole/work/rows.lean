section
-- ===== PART A: goes FIRST, ahead of the names: the tables' words, and 'selects' of the private methods out of them =====
/-- a private method of a class that the tables say can be made, by its rows of tables_1 -/
def lw_okq (q : MethodName × Nat) : Prop := (q.1.cls ≠ "java/lang/invoke/MethodHandle" ∧ q.1.cls ≠ "java/lang/invoke/VarHandle") ∧ Cond.instantiable q.1.cls q.2 ∈ tables_1 ∧ Cond.privateMethod q.1 ∈ tables_1 ∧ Cond.instanceMethod q.1 ∈ tables_1
theorem lw_p0 : lw_okq (⟨"ThroatTracks", "fittingTracks", "(I)I"⟩, 8) := ⟨⟨by decide +kernel, by decide +kernel⟩, List.mem_of_getElem? (i := 17) (by decide +kernel), List.mem_of_getElem? (i := 443) (by decide +kernel), List.mem_of_getElem? (i := 444) (by decide +kernel)⟩
theorem lw_p1 : lw_okq (⟨"ThroatTracks", "placedTrains", "()I"⟩, 8) := ⟨⟨by decide +kernel, by decide +kernel⟩, List.mem_of_getElem? (i := 17) (by decide +kernel), List.mem_of_getElem? (i := 479) (by decide +kernel), List.mem_of_getElem? (i := 480) (by decide +kernel)⟩
theorem lw_p2 : lw_okq (⟨"ThroatTracks", "wishesMet", "([I)I"⟩, 8) := ⟨⟨by decide +kernel, by decide +kernel⟩, List.mem_of_getElem? (i := 17) (by decide +kernel), List.mem_of_getElem? (i := 544) (by decide +kernel), List.mem_of_getElem? (i := 545) (by decide +kernel)⟩
theorem lw_p3 : lw_okq (⟨"ThroatTracks", "movedBy", "([I)I"⟩, 8) := ⟨⟨by decide +kernel, by decide +kernel⟩, List.mem_of_getElem? (i := 17) (by decide +kernel), List.mem_of_getElem? (i := 548) (by decide +kernel), List.mem_of_getElem? (i := 549) (by decide +kernel)⟩
theorem lw_p4 : lw_okq (⟨"ThroatTracks", "trainsOn", "(II)I"⟩, 8) := ⟨⟨by decide +kernel, by decide +kernel⟩, List.mem_of_getElem? (i := 17) (by decide +kernel), List.mem_of_getElem? (i := 577) (by decide +kernel), List.mem_of_getElem? (i := 578) (by decide +kernel)⟩
theorem lw_p5 : lw_okq (⟨"ThroatTracks", "switchesIn", "(I)I"⟩, 8) := ⟨⟨by decide +kernel, by decide +kernel⟩, List.mem_of_getElem? (i := 17) (by decide +kernel), List.mem_of_getElem? (i := 585) (by decide +kernel), List.mem_of_getElem? (i := 586) (by decide +kernel)⟩
theorem lw_p6 : lw_okq (⟨"ThroatTracks", "minutesOfTrack", "(I)I"⟩, 8) := ⟨⟨by decide +kernel, by decide +kernel⟩, List.mem_of_getElem? (i := 17) (by decide +kernel), List.mem_of_getElem? (i := 601) (by decide +kernel), List.mem_of_getElem? (i := 602) (by decide +kernel)⟩
theorem lw_p7 : lw_okq (⟨"ThroatTracks", "minutesOfSwitch", "(I)I"⟩, 8) := ⟨⟨by decide +kernel, by decide +kernel⟩, List.mem_of_getElem? (i := 17) (by decide +kernel), List.mem_of_getElem? (i := 605) (by decide +kernel), List.mem_of_getElem? (i := 606) (by decide +kernel)⟩
theorem lw_p8 : lw_okq (⟨"ThroatTracksModel", "begins", "()V"⟩, 15) := ⟨⟨by decide +kernel, by decide +kernel⟩, List.mem_of_getElem? (i := 613) (by decide +kernel), List.mem_of_getElem? (i := 619) (by decide +kernel), List.mem_of_getElem? (i := 620) (by decide +kernel)⟩
theorem lw_p9 : lw_okq (⟨"ThroatTracksModel", "comes", "(IIIII)V"⟩, 15) := ⟨⟨by decide +kernel, by decide +kernel⟩, List.mem_of_getElem? (i := 613) (by decide +kernel), List.mem_of_getElem? (i := 623) (by decide +kernel), List.mem_of_getElem? (i := 624) (by decide +kernel)⟩
theorem lw_p10 : lw_okq (⟨"ThroatTracksModel", "takesAll", "()V"⟩, 15) := ⟨⟨by decide +kernel, by decide +kernel⟩, List.mem_of_getElem? (i := 613) (by decide +kernel), List.mem_of_getElem? (i := 627) (by decide +kernel), List.mem_of_getElem? (i := 628) (by decide +kernel)⟩
theorem lw_p11 : lw_okq (⟨"ThroatTracksModel", "reads", "()I"⟩, 15) := ⟨⟨by decide +kernel, by decide +kernel⟩, List.mem_of_getElem? (i := 613) (by decide +kernel), List.mem_of_getElem? (i := 693) (by decide +kernel), List.mem_of_getElem? (i := 694) (by decide +kernel)⟩
theorem lw_p12 : lw_okq (⟨"ThroatTracksModel", "takesItem", "()Z"⟩, 15) := ⟨⟨by decide +kernel, by decide +kernel⟩, List.mem_of_getElem? (i := 613) (by decide +kernel), List.mem_of_getElem? (i := 697) (by decide +kernel), List.mem_of_getElem? (i := 698) (by decide +kernel)⟩
theorem lw_p13 : lw_okq (⟨"ThroatTracksModel", "isWord", "(IIII)Z"⟩, 15) := ⟨⟨by decide +kernel, by decide +kernel⟩, List.mem_of_getElem? (i := 613) (by decide +kernel), List.mem_of_getElem? (i := 701) (by decide +kernel), List.mem_of_getElem? (i := 702) (by decide +kernel)⟩
theorem lw_p14 : lw_okq (⟨"ThroatTracksModel", "takesYard", "()Z"⟩, 15) := ⟨⟨by decide +kernel, by decide +kernel⟩, List.mem_of_getElem? (i := 613) (by decide +kernel), List.mem_of_getElem? (i := 705) (by decide +kernel), List.mem_of_getElem? (i := 706) (by decide +kernel)⟩
theorem lw_p15 : lw_okq (⟨"ThroatTracksModel", "takesNumbers", "(II)Z"⟩, 15) := ⟨⟨by decide +kernel, by decide +kernel⟩, List.mem_of_getElem? (i := 613) (by decide +kernel), List.mem_of_getElem? (i := 709) (by decide +kernel), List.mem_of_getElem? (i := 710) (by decide +kernel)⟩
def lw_privs_1 : List (MethodName × Nat) := [(⟨"ThroatTracks", "fittingTracks", "(I)I"⟩, 8), (⟨"ThroatTracks", "placedTrains", "()I"⟩, 8), (⟨"ThroatTracks", "wishesMet", "([I)I"⟩, 8), (⟨"ThroatTracks", "movedBy", "([I)I"⟩, 8), (⟨"ThroatTracks", "trainsOn", "(II)I"⟩, 8), (⟨"ThroatTracks", "switchesIn", "(I)I"⟩, 8), (⟨"ThroatTracks", "minutesOfTrack", "(I)I"⟩, 8), (⟨"ThroatTracks", "minutesOfSwitch", "(I)I"⟩, 8), (⟨"ThroatTracksModel", "begins", "()V"⟩, 15), (⟨"ThroatTracksModel", "comes", "(IIIII)V"⟩, 15), (⟨"ThroatTracksModel", "takesAll", "()V"⟩, 15), (⟨"ThroatTracksModel", "reads", "()I"⟩, 15), (⟨"ThroatTracksModel", "takesItem", "()Z"⟩, 15), (⟨"ThroatTracksModel", "isWord", "(IIII)Z"⟩, 15), (⟨"ThroatTracksModel", "takesYard", "()Z"⟩, 15), (⟨"ThroatTracksModel", "takesNumbers", "(II)Z"⟩, 15)]
theorem lw_r1 : ∀ q ∈ lw_privs_1, lw_okq q := List.forall_mem_cons.mpr ⟨lw_p0, List.forall_mem_cons.mpr ⟨lw_p1, List.forall_mem_cons.mpr ⟨lw_p2, List.forall_mem_cons.mpr ⟨lw_p3, List.forall_mem_cons.mpr ⟨lw_p4, List.forall_mem_cons.mpr ⟨lw_p5, List.forall_mem_cons.mpr ⟨lw_p6, List.forall_mem_cons.mpr ⟨lw_p7, List.forall_mem_cons.mpr ⟨lw_p8, List.forall_mem_cons.mpr ⟨lw_p9, List.forall_mem_cons.mpr ⟨lw_p10, List.forall_mem_cons.mpr ⟨lw_p11, List.forall_mem_cons.mpr ⟨lw_p12, List.forall_mem_cons.mpr ⟨lw_p13, List.forall_mem_cons.mpr ⟨lw_p14, List.forall_mem_cons.mpr ⟨lw_p15, fun _ h => absurd h List.not_mem_nil⟩⟩⟩⟩⟩⟩⟩⟩⟩⟩⟩⟩⟩⟩⟩⟩
theorem lw_p16 : lw_okq (⟨"ThroatTracksModel", "takesNumber", "()Z"⟩, 15) := ⟨⟨by decide +kernel, by decide +kernel⟩, List.mem_of_getElem? (i := 613) (by decide +kernel), List.mem_of_getElem? (i := 713) (by decide +kernel), List.mem_of_getElem? (i := 714) (by decide +kernel)⟩
theorem lw_p17 : lw_okq (⟨"ThroatTracksModel", "isAt", "(II)Z"⟩, 15) := ⟨⟨by decide +kernel, by decide +kernel⟩, List.mem_of_getElem? (i := 613) (by decide +kernel), List.mem_of_getElem? (i := 717) (by decide +kernel), List.mem_of_getElem? (i := 718) (by decide +kernel)⟩
theorem lw_p18 : lw_okq (⟨"ThroatTracksModel", "takesPath", "()Z"⟩, 15) := ⟨⟨by decide +kernel, by decide +kernel⟩, List.mem_of_getElem? (i := 613) (by decide +kernel), List.mem_of_getElem? (i := 721) (by decide +kernel), List.mem_of_getElem? (i := 722) (by decide +kernel)⟩
theorem lw_p19 : lw_okq (⟨"ThroatTracksModel", "takesTrain", "()Z"⟩, 15) := ⟨⟨by decide +kernel, by decide +kernel⟩, List.mem_of_getElem? (i := 613) (by decide +kernel), List.mem_of_getElem? (i := 725) (by decide +kernel), List.mem_of_getElem? (i := 726) (by decide +kernel)⟩
theorem lw_p20 : lw_okq (⟨"ThroatTracksModel", "takesPair", "()Z"⟩, 15) := ⟨⟨by decide +kernel, by decide +kernel⟩, List.mem_of_getElem? (i := 613) (by decide +kernel), List.mem_of_getElem? (i := 729) (by decide +kernel), List.mem_of_getElem? (i := 730) (by decide +kernel)⟩
theorem lw_p21 : lw_okq (⟨"ThroatTracksModel", "takesGap", "()Z"⟩, 15) := ⟨⟨by decide +kernel, by decide +kernel⟩, List.mem_of_getElem? (i := 613) (by decide +kernel), List.mem_of_getElem? (i := 733) (by decide +kernel), List.mem_of_getElem? (i := 734) (by decide +kernel)⟩
theorem lw_p22 : lw_okq (⟨"ThroatTracksModel", "isTrack", "(I)Z"⟩, 15) := ⟨⟨by decide +kernel, by decide +kernel⟩, List.mem_of_getElem? (i := 613) (by decide +kernel), List.mem_of_getElem? (i := 749) (by decide +kernel), List.mem_of_getElem? (i := 750) (by decide +kernel)⟩
theorem lw_p23 : lw_okq (⟨"ThroatTracksModel", "routeOf", "(II)I"⟩, 15) := ⟨⟨by decide +kernel, by decide +kernel⟩, List.mem_of_getElem? (i := 613) (by decide +kernel), List.mem_of_getElem? (i := 753) (by decide +kernel), List.mem_of_getElem? (i := 754) (by decide +kernel)⟩
theorem lw_p24 : lw_okq (⟨"ThroatTracksModel", "isTrain", "(I)Z"⟩, 15) := ⟨⟨by decide +kernel, by decide +kernel⟩, List.mem_of_getElem? (i := 613) (by decide +kernel), List.mem_of_getElem? (i := 761) (by decide +kernel), List.mem_of_getElem? (i := 762) (by decide +kernel)⟩
theorem lw_p25 : lw_okq (⟨"ThroatTracksModel", "of", "(II)I"⟩, 15) := ⟨⟨by decide +kernel, by decide +kernel⟩, List.mem_of_getElem? (i := 613) (by decide +kernel), List.mem_of_getElem? (i := 765) (by decide +kernel), List.mem_of_getElem? (i := 766) (by decide +kernel)⟩
theorem lw_p26 : lw_okq (⟨"ThroatTracksModel", "fits", "(I)I"⟩, 15) := ⟨⟨by decide +kernel, by decide +kernel⟩, List.mem_of_getElem? (i := 613) (by decide +kernel), List.mem_of_getElem? (i := 769) (by decide +kernel), List.mem_of_getElem? (i := 770) (by decide +kernel)⟩
theorem lw_p27 : lw_okq (⟨"ThroatTracksModel", "doesFit", "(II)Z"⟩, 15) := ⟨⟨by decide +kernel, by decide +kernel⟩, List.mem_of_getElem? (i := 613) (by decide +kernel), List.mem_of_getElem? (i := 773) (by decide +kernel), List.mem_of_getElem? (i := 774) (by decide +kernel)⟩
theorem lw_p28 : lw_okq (⟨"ThroatTracksModel", "wayIn", "(II)I"⟩, 15) := ⟨⟨by decide +kernel, by decide +kernel⟩, List.mem_of_getElem? (i := 613) (by decide +kernel), List.mem_of_getElem? (i := 777) (by decide +kernel), List.mem_of_getElem? (i := 778) (by decide +kernel)⟩
theorem lw_p29 : lw_okq (⟨"ThroatTracksModel", "wayOut", "(II)I"⟩, 15) := ⟨⟨by decide +kernel, by decide +kernel⟩, List.mem_of_getElem? (i := 613) (by decide +kernel), List.mem_of_getElem? (i := 781) (by decide +kernel), List.mem_of_getElem? (i := 782) (by decide +kernel)⟩
theorem lw_p30 : lw_okq (⟨"ThroatTracksModel", "hardOf", "(I)I"⟩, 15) := ⟨⟨by decide +kernel, by decide +kernel⟩, List.mem_of_getElem? (i := 613) (by decide +kernel), List.mem_of_getElem? (i := 785) (by decide +kernel), List.mem_of_getElem? (i := 786) (by decide +kernel)⟩
theorem lw_p31 : lw_okq (⟨"ThroatTracksModel", "whyNot", "(II)I"⟩, 15) := ⟨⟨by decide +kernel, by decide +kernel⟩, List.mem_of_getElem? (i := 613) (by decide +kernel), List.mem_of_getElem? (i := 789) (by decide +kernel), List.mem_of_getElem? (i := 790) (by decide +kernel)⟩
def lw_privs_2 : List (MethodName × Nat) := [(⟨"ThroatTracksModel", "takesNumber", "()Z"⟩, 15), (⟨"ThroatTracksModel", "isAt", "(II)Z"⟩, 15), (⟨"ThroatTracksModel", "takesPath", "()Z"⟩, 15), (⟨"ThroatTracksModel", "takesTrain", "()Z"⟩, 15), (⟨"ThroatTracksModel", "takesPair", "()Z"⟩, 15), (⟨"ThroatTracksModel", "takesGap", "()Z"⟩, 15), (⟨"ThroatTracksModel", "isTrack", "(I)Z"⟩, 15), (⟨"ThroatTracksModel", "routeOf", "(II)I"⟩, 15), (⟨"ThroatTracksModel", "isTrain", "(I)Z"⟩, 15), (⟨"ThroatTracksModel", "of", "(II)I"⟩, 15), (⟨"ThroatTracksModel", "fits", "(I)I"⟩, 15), (⟨"ThroatTracksModel", "doesFit", "(II)Z"⟩, 15), (⟨"ThroatTracksModel", "wayIn", "(II)I"⟩, 15), (⟨"ThroatTracksModel", "wayOut", "(II)I"⟩, 15), (⟨"ThroatTracksModel", "hardOf", "(I)I"⟩, 15), (⟨"ThroatTracksModel", "whyNot", "(II)I"⟩, 15)]
theorem lw_r2 : ∀ q ∈ lw_privs_2, lw_okq q := List.forall_mem_cons.mpr ⟨lw_p16, List.forall_mem_cons.mpr ⟨lw_p17, List.forall_mem_cons.mpr ⟨lw_p18, List.forall_mem_cons.mpr ⟨lw_p19, List.forall_mem_cons.mpr ⟨lw_p20, List.forall_mem_cons.mpr ⟨lw_p21, List.forall_mem_cons.mpr ⟨lw_p22, List.forall_mem_cons.mpr ⟨lw_p23, List.forall_mem_cons.mpr ⟨lw_p24, List.forall_mem_cons.mpr ⟨lw_p25, List.forall_mem_cons.mpr ⟨lw_p26, List.forall_mem_cons.mpr ⟨lw_p27, List.forall_mem_cons.mpr ⟨lw_p28, List.forall_mem_cons.mpr ⟨lw_p29, List.forall_mem_cons.mpr ⟨lw_p30, List.forall_mem_cons.mpr ⟨lw_p31, fun _ h => absurd h List.not_mem_nil⟩⟩⟩⟩⟩⟩⟩⟩⟩⟩⟩⟩⟩⟩⟩⟩
theorem lw_p32 : lw_okq (⟨"ThroatTracksModel", "clashing", "(II)I"⟩, 15) := ⟨⟨by decide +kernel, by decide +kernel⟩, List.mem_of_getElem? (i := 613) (by decide +kernel), List.mem_of_getElem? (i := 793) (by decide +kernel), List.mem_of_getElem? (i := 794) (by decide +kernel)⟩
theorem lw_p33 : lw_okq (⟨"ThroatTracksModel", "clashOf", "(IIII)I"⟩, 15) := ⟨⟨by decide +kernel, by decide +kernel⟩, List.mem_of_getElem? (i := 613) (by decide +kernel), List.mem_of_getElem? (i := 797) (by decide +kernel), List.mem_of_getElem? (i := 798) (by decide +kernel)⟩
theorem lw_p34 : lw_okq (⟨"ThroatTracksModel", "keeps", "()V"⟩, 15) := ⟨⟨by decide +kernel, by decide +kernel⟩, List.mem_of_getElem? (i := 613) (by decide +kernel), List.mem_of_getElem? (i := 808) (by decide +kernel), List.mem_of_getElem? (i := 809) (by decide +kernel)⟩
theorem lw_p35 : lw_okq (⟨"ThroatTracksModel", "becomes", "(III)V"⟩, 15) := ⟨⟨by decide +kernel, by decide +kernel⟩, List.mem_of_getElem? (i := 613) (by decide +kernel), List.mem_of_getElem? (i := 812) (by decide +kernel), List.mem_of_getElem? (i := 813) (by decide +kernel)⟩
theorem lw_p36 : lw_okq (⟨"ThroatTracksModel", "placed", "()I"⟩, 15) := ⟨⟨by decide +kernel, by decide +kernel⟩, List.mem_of_getElem? (i := 613) (by decide +kernel), List.mem_of_getElem? (i := 816) (by decide +kernel), List.mem_of_getElem? (i := 817) (by decide +kernel)⟩
theorem lw_p37 : lw_okq (⟨"ThroatTracksModel", "findsWay", "(II)V"⟩, 15) := ⟨⟨by decide +kernel, by decide +kernel⟩, List.mem_of_getElem? (i := 613) (by decide +kernel), List.mem_of_getElem? (i := 844) (by decide +kernel), List.mem_of_getElem? (i := 845) (by decide +kernel)⟩
theorem lw_p38 : lw_okq (⟨"ThroatTracksModel", "laysClashes", "(I)V"⟩, 15) := ⟨⟨by decide +kernel, by decide +kernel⟩, List.mem_of_getElem? (i := 613) (by decide +kernel), List.mem_of_getElem? (i := 848) (by decide +kernel), List.mem_of_getElem? (i := 849) (by decide +kernel)⟩
theorem lw_p39 : lw_okq (⟨"ThroatTracksModel", "takesIfBetter", "(I)V"⟩, 15) := ⟨⟨by decide +kernel, by decide +kernel⟩, List.mem_of_getElem? (i := 613) (by decide +kernel), List.mem_of_getElem? (i := 852) (by decide +kernel), List.mem_of_getElem? (i := 853) (by decide +kernel)⟩
theorem lw_p40 : lw_okq (⟨"ThroatTracksModel", "noneOf", "(I)I"⟩, 15) := ⟨⟨by decide +kernel, by decide +kernel⟩, List.mem_of_getElem? (i := 613) (by decide +kernel), List.mem_of_getElem? (i := 856) (by decide +kernel), List.mem_of_getElem? (i := 857) (by decide +kernel)⟩
theorem lw_p41 : lw_okq (⟨"ThroatTracksModel", "like", "(II)I"⟩, 15) := ⟨⟨by decide +kernel, by decide +kernel⟩, List.mem_of_getElem? (i := 613) (by decide +kernel), List.mem_of_getElem? (i := 860) (by decide +kernel), List.mem_of_getElem? (i := 861) (by decide +kernel)⟩
theorem lw_p42 : lw_okq (⟨"ThroatTracksModel", "may", "(II)Z"⟩, 15) := ⟨⟨by decide +kernel, by decide +kernel⟩, List.mem_of_getElem? (i := 613) (by decide +kernel), List.mem_of_getElem? (i := 867) (by decide +kernel), List.mem_of_getElem? (i := 868) (by decide +kernel)⟩
theorem lw_p43 : lw_okq (⟨"ThroatTracksModel", "isWorth", "(II)Z"⟩, 15) := ⟨⟨by decide +kernel, by decide +kernel⟩, List.mem_of_getElem? (i := 613) (by decide +kernel), List.mem_of_getElem? (i := 871) (by decide +kernel), List.mem_of_getElem? (i := 872) (by decide +kernel)⟩
theorem lw_p44 : lw_okq (⟨"ThroatTracksModel", "wished", "()I"⟩, 15) := ⟨⟨by decide +kernel, by decide +kernel⟩, List.mem_of_getElem? (i := 613) (by decide +kernel), List.mem_of_getElem? (i := 875) (by decide +kernel), List.mem_of_getElem? (i := 876) (by decide +kernel)⟩
theorem lw_p45 : lw_okq (⟨"ThroatTracksModel", "otherwise", "()I"⟩, 15) := ⟨⟨by decide +kernel, by decide +kernel⟩, List.mem_of_getElem? (i := 613) (by decide +kernel), List.mem_of_getElem? (i := 879) (by decide +kernel), List.mem_of_getElem? (i := 880) (by decide +kernel)⟩
theorem lw_p46 : lw_okq (⟨"ThroatTracksModel", "onTrack", "(II)I"⟩, 15) := ⟨⟨by decide +kernel, by decide +kernel⟩, List.mem_of_getElem? (i := 613) (by decide +kernel), List.mem_of_getElem? (i := 895) (by decide +kernel), List.mem_of_getElem? (i := 896) (by decide +kernel)⟩
theorem lw_p47 : lw_okq (⟨"ThroatTracksModel", "takenIn", "(I)I"⟩, 15) := ⟨⟨by decide +kernel, by decide +kernel⟩, List.mem_of_getElem? (i := 613) (by decide +kernel), List.mem_of_getElem? (i := 903) (by decide +kernel), List.mem_of_getElem? (i := 904) (by decide +kernel)⟩
def lw_privs_3 : List (MethodName × Nat) := [(⟨"ThroatTracksModel", "clashing", "(II)I"⟩, 15), (⟨"ThroatTracksModel", "clashOf", "(IIII)I"⟩, 15), (⟨"ThroatTracksModel", "keeps", "()V"⟩, 15), (⟨"ThroatTracksModel", "becomes", "(III)V"⟩, 15), (⟨"ThroatTracksModel", "placed", "()I"⟩, 15), (⟨"ThroatTracksModel", "findsWay", "(II)V"⟩, 15), (⟨"ThroatTracksModel", "laysClashes", "(I)V"⟩, 15), (⟨"ThroatTracksModel", "takesIfBetter", "(I)V"⟩, 15), (⟨"ThroatTracksModel", "noneOf", "(I)I"⟩, 15), (⟨"ThroatTracksModel", "like", "(II)I"⟩, 15), (⟨"ThroatTracksModel", "may", "(II)Z"⟩, 15), (⟨"ThroatTracksModel", "isWorth", "(II)Z"⟩, 15), (⟨"ThroatTracksModel", "wished", "()I"⟩, 15), (⟨"ThroatTracksModel", "otherwise", "()I"⟩, 15), (⟨"ThroatTracksModel", "onTrack", "(II)I"⟩, 15), (⟨"ThroatTracksModel", "takenIn", "(I)I"⟩, 15)]
theorem lw_r3 : ∀ q ∈ lw_privs_3, lw_okq q := List.forall_mem_cons.mpr ⟨lw_p32, List.forall_mem_cons.mpr ⟨lw_p33, List.forall_mem_cons.mpr ⟨lw_p34, List.forall_mem_cons.mpr ⟨lw_p35, List.forall_mem_cons.mpr ⟨lw_p36, List.forall_mem_cons.mpr ⟨lw_p37, List.forall_mem_cons.mpr ⟨lw_p38, List.forall_mem_cons.mpr ⟨lw_p39, List.forall_mem_cons.mpr ⟨lw_p40, List.forall_mem_cons.mpr ⟨lw_p41, List.forall_mem_cons.mpr ⟨lw_p42, List.forall_mem_cons.mpr ⟨lw_p43, List.forall_mem_cons.mpr ⟨lw_p44, List.forall_mem_cons.mpr ⟨lw_p45, List.forall_mem_cons.mpr ⟨lw_p46, List.forall_mem_cons.mpr ⟨lw_p47, fun _ h => absurd h List.not_mem_nil⟩⟩⟩⟩⟩⟩⟩⟩⟩⟩⟩⟩⟩⟩⟩⟩
theorem lw_p48 : lw_okq (⟨"ThroatTracksModel", "asWished", "()I"⟩, 15) := ⟨⟨by decide +kernel, by decide +kernel⟩, List.mem_of_getElem? (i := 613) (by decide +kernel), List.mem_of_getElem? (i := 915) (by decide +kernel), List.mem_of_getElem? (i := 916) (by decide +kernel)⟩
def lw_privs_4 : List (MethodName × Nat) := [(⟨"ThroatTracksModel", "asWished", "()I"⟩, 15)]
theorem lw_r4 : ∀ q ∈ lw_privs_4, lw_okq q := List.forall_mem_cons.mpr ⟨lw_p48, fun _ h => absurd h List.not_mem_nil⟩
def lw_privs : List (MethodName × Nat) := lw_privs_1 ++ (lw_privs_2 ++ (lw_privs_3 ++ (lw_privs_4)))
def lw_tbl : List Cond := k2_sels lw_privs ++ tables_1
theorem lw_privs_ok : ∀ q ∈ lw_privs, lw_okq q := by
  show ∀ q ∈ lw_privs_1 ++ (lw_privs_2 ++ (lw_privs_3 ++ (lw_privs_4))), lw_okq q
  exact List.forall_mem_append.mpr ⟨lw_r1, List.forall_mem_append.mpr ⟨lw_r2, List.forall_mem_append.mpr ⟨lw_r3, lw_r4⟩⟩⟩
def RX0 : String := "ThroatTracks$Clashes"
def TX0 : u_T := fun k => match k with
  | 0 => ("ThroatTracks$Clashes", "yard", "LThroatTracks$Yard;", true)
  | 1 => ("ThroatTracks$Clashes", "plan", "LThroatTracks$Plan;", true)
  | _ => ("ThroatTracks$Clashes", "against", "[I", true)
def tyX0 : Nat → FieldType := fun k => match k with
  | 0 => .object "ThroatTracks$Yard"
  | 1 => .object "ThroatTracks$Plan"
  | _ => .array .int
theorem nmX0 : ∀ a, a < 3 → ∀ b, b < 3 → a ≠ b → (TX0 a).2.1 ≠ (TX0 b).2.1 := by decide +kernel
theorem tyX0_ok : ∀ k, k < 3 → parseFieldDescriptor (TX0 k).2.2.1 = some (tyX0 k) := by decide +kernel
abbrev cX0_init : ByteArray := prog_2_method_1_code
def yX0_init : MethodName := ⟨RX0, "<init>", "(LThroatTracks$Yard;LThroatTracks$Plan;)V"⟩
abbrev cX0_seat : ByteArray := prog_2_method_2_code
def yX0_seat : MethodName := ⟨RX0, "seat", "(II)I"⟩
abbrev cX0_workOut : ByteArray := prog_2_method_3_code
def yX0_workOut : MethodName := ⟨RX0, "workOut", "()V"⟩
abbrev cX0_seatsAgainst : ByteArray := prog_2_method_4_code
def yX0_seatsAgainst : MethodName := ⟨RX0, "seatsAgainst", "(II)I"⟩
abbrev cX0_kind : ByteArray := prog_2_method_5_code
def yX0_kind : MethodName := ⟨RX0, "kind", "(IIII)I"⟩
abbrev cX0_isBehind : ByteArray := prog_2_method_6_code
def yX0_isBehind : MethodName := ⟨RX0, "isBehind", "(II)Z"⟩
abbrev cX0_shareSwitch : ByteArray := prog_2_method_7_code
def yX0_shareSwitch : MethodName := ⟨RX0, "shareSwitch", "(IIII)Z"⟩
abbrev cX0_meet : ByteArray := prog_2_method_8_code
def yX0_meet : MethodName := ⟨RX0, "meet", "(III)Z"⟩
abbrev cX0_firstAgainst : ByteArray := prog_2_method_9_code
def yX0_firstAgainst : MethodName := ⟨RX0, "firstAgainst", "(II)I"⟩
abbrev cX0_isFree : ByteArray := prog_2_method_10_code
def yX0_isFree : MethodName := ⟨RX0, "isFree", "(II)Z"⟩
abbrev cX0_freeTracks : ByteArray := prog_2_method_11_code
def yX0_freeTracks : MethodName := ⟨RX0, "freeTracks", "(I)I"⟩
def RX1 : String := "ThroatTracks$Past"
def TX1 : u_T := fun k => match k with
  | 0 => ("ThroatTracks$Past", "kept", "[LThroatTracks$Plan;", true)
  | 1 => ("ThroatTracks$Past", "next", "I", false)
  | _ => ("ThroatTracks$Past", "size", "I", false)
def tyX1 : Nat → FieldType := fun k => match k with
  | 0 => .array (.object "ThroatTracks$Plan")
  | 1 => .int
  | _ => .int
theorem nmX1 : ∀ a, a < 3 → ∀ b, b < 3 → a ≠ b → (TX1 a).2.1 ≠ (TX1 b).2.1 := by decide +kernel
theorem tyX1_ok : ∀ k, k < 3 → parseFieldDescriptor (TX1 k).2.2.1 = some (tyX1 k) := by decide +kernel
abbrev cX1_init : ByteArray := prog_3_method_1_code
def yX1_init : MethodName := ⟨RX1, "<init>", "()V"⟩
abbrev cX1_keep : ByteArray := prog_3_method_2_code
def yX1_keep : MethodName := ⟨RX1, "keep", "(LThroatTracks$Plan;)V"⟩
abbrev cX1_bringBack : ByteArray := prog_3_method_3_code
def yX1_bringBack : MethodName := ⟨RX1, "bringBack", "(LThroatTracks$Plan;)V"⟩
def RX2 : String := "ThroatTracks$Plan"
def TX2 : u_T := fun k => match k with
  | 0 => ("ThroatTracks$Plan", "arrives", "[I", true)
  | 1 => ("ThroatTracks$Plan", "leaves", "[I", true)
  | 2 => ("ThroatTracks$Plan", "wished", "[I", true)
  | _ => ("ThroatTracks$Plan", "placed", "[I", true)
def tyX2 : Nat → FieldType := fun k => match k with
  | 0 => .array .int
  | 1 => .array .int
  | 2 => .array .int
  | _ => .array .int
theorem nmX2 : ∀ a, a < 4 → ∀ b, b < 4 → a ≠ b → (TX2 a).2.1 ≠ (TX2 b).2.1 := by decide +kernel
theorem tyX2_ok : ∀ k, k < 4 → parseFieldDescriptor (TX2 k).2.2.1 = some (tyX2 k) := by decide +kernel
abbrev cX2_init : ByteArray := prog_4_method_1_code
def yX2_init : MethodName := ⟨RX2, "<init>", "()V"⟩
abbrev cX2_copy : ByteArray := prog_4_method_2_code
def yX2_copy : MethodName := ⟨RX2, "copy", "(LThroatTracks$Plan;)V"⟩
abbrev cX2_comesIn : ByteArray := prog_4_method_3_code
def yX2_comesIn : MethodName := ⟨RX2, "comesIn", "(II)Z"⟩
abbrev cX2_goesOut : ByteArray := prog_4_method_4_code
def yX2_goesOut : MethodName := ⟨RX2, "goesOut", "(II)Z"⟩
def RX3 : String := "ThroatTracks$Reader"
def TX3 : u_T := fun k => match k with
  | 0 => ("ThroatTracks$Reader", "text", "LThroatTracks$Text;", true)
  | 1 => ("ThroatTracks$Reader", "yard", "LThroatTracks$Yard;", true)
  | 2 => ("ThroatTracks$Reader", "plan", "LThroatTracks$Plan;", true)
  | 3 => ("ThroatTracks$Reader", "numbers", "[I", true)
  | _ => ("ThroatTracks$Reader", "size", "I", false)
def tyX3 : Nat → FieldType := fun k => match k with
  | 0 => .object "ThroatTracks$Text"
  | 1 => .object "ThroatTracks$Yard"
  | 2 => .object "ThroatTracks$Plan"
  | 3 => .array .int
  | _ => .int
theorem nmX3 : ∀ a, a < 5 → ∀ b, b < 5 → a ≠ b → (TX3 a).2.1 ≠ (TX3 b).2.1 := by decide +kernel
theorem tyX3_ok : ∀ k, k < 5 → parseFieldDescriptor (TX3 k).2.2.1 = some (tyX3 k) := by decide +kernel
abbrev cX3_init : ByteArray := prog_5_method_1_code
def yX3_init : MethodName := ⟨RX3, "<init>", "(LThroatTracks$Text;LThroatTracks$Yard;LThroatTracks$Plan;)V"⟩
abbrev cX3_firstFault : ByteArray := prog_5_method_2_code
def yX3_firstFault : MethodName := ⟨RX3, "firstFault", "()I"⟩
abbrev cX3_wordAt : ByteArray := prog_5_method_3_code
def yX3_wordAt : MethodName := ⟨RX3, "wordAt", "(I)I"⟩
abbrev cX3_readNumbers : ByteArray := prog_5_method_4_code
def yX3_readNumbers : MethodName := ⟨RX3, "readNumbers", "(I)I"⟩
abbrev cX3_isFigure : ByteArray := prog_5_method_5_code
def yX3_isFigure : MethodName := ⟨RX3, "isFigure", "(I)Z"⟩
abbrev cX3_isTold : ByteArray := prog_5_method_6_code
def yX3_isTold : MethodName := ⟨RX3, "isTold", "(I)Z"⟩
abbrev cX3_tellYard : ByteArray := prog_5_method_7_code
def yX3_tellYard : MethodName := ⟨RX3, "tellYard", "()Z"⟩
abbrev cX3_tellPath : ByteArray := prog_5_method_8_code
def yX3_tellPath : MethodName := ⟨RX3, "tellPath", "()Z"⟩
abbrev cX3_tellTrain : ByteArray := prog_5_method_9_code
def yX3_tellTrain : MethodName := ⟨RX3, "tellTrain", "()Z"⟩
abbrev cX3_isTrain : ByteArray := prog_5_method_10_code
def yX3_isTrain : MethodName := ⟨RX3, "isTrain", "()Z"⟩
abbrev cX3_tellPair : ByteArray := prog_5_method_11_code
def yX3_tellPair : MethodName := ⟨RX3, "tellPair", "()Z"⟩
abbrev cX3_tellGap : ByteArray := prog_5_method_12_code
def yX3_tellGap : MethodName := ⟨RX3, "tellGap", "()Z"⟩
def RX4 : String := "ThroatTracks$Search"
def TX4 : u_T := fun k => match k with
  | 0 => ("ThroatTracks$Search", "yard", "LThroatTracks$Yard;", true)
  | 1 => ("ThroatTracks$Search", "plan", "LThroatTracks$Plan;", true)
  | 2 => ("ThroatTracks$Search", "clashes", "LThroatTracks$Clashes;", true)
  | 3 => ("ThroatTracks$Search", "costs", "[I", true)
  | 4 => ("ThroatTracks$Search", "atLeast", "[I", true)
  | 5 => ("ThroatTracks$Search", "trial", "[I", true)
  | 6 => ("ThroatTracks$Search", "found", "[I", true)
  | _ => ("ThroatTracks$Search", "leastCost", "I", false)
def tyX4 : Nat → FieldType := fun k => match k with
  | 0 => .object "ThroatTracks$Yard"
  | 1 => .object "ThroatTracks$Plan"
  | 2 => .object "ThroatTracks$Clashes"
  | 3 => .array .int
  | 4 => .array .int
  | 5 => .array .int
  | 6 => .array .int
  | _ => .int
theorem nmX4 : ∀ a, a < 8 → ∀ b, b < 8 → a ≠ b → (TX4 a).2.1 ≠ (TX4 b).2.1 := by decide +kernel
theorem tyX4_ok : ∀ k, k < 8 → parseFieldDescriptor (TX4 k).2.2.1 = some (tyX4 k) := by decide +kernel
abbrev cX4_init : ByteArray := prog_6_method_1_code
def yX4_init : MethodName := ⟨RX4, "<init>", "(LThroatTracks$Yard;LThroatTracks$Plan;LThroatTracks$Clashes;)V"⟩
abbrev cX4_find : ByteArray := prog_6_method_2_code
def yX4_find : MethodName := ⟨RX4, "find", "(I)V"⟩
abbrev cX4_findAvoiding : ByteArray := prog_6_method_3_code
def yX4_findAvoiding : MethodName := ⟨RX4, "findAvoiding", "(I)V"⟩
abbrev cX4_trackless : ByteArray := prog_6_method_4_code
def yX4_trackless : MethodName := ⟨RX4, "trackless", "()I"⟩
abbrev cX4_weigh : ByteArray := prog_6_method_5_code
def yX4_weigh : MethodName := ⟨RX4, "weigh", "(II)V"⟩
abbrev cX4_costOf : ByteArray := prog_6_method_6_code
def yX4_costOf : MethodName := ⟨RX4, "costOf", "(II)I"⟩
abbrev cX4_start : ByteArray := prog_6_method_7_code
def yX4_start : MethodName := ⟨RX4, "start", "()V"⟩
abbrev cX4_seek : ByteArray := prog_6_method_8_code
def yX4_seek : MethodName := ⟨RX4, "seek", "(III)V"⟩
abbrev cX4_keepIfLess : ByteArray := prog_6_method_9_code
def yX4_keepIfLess : MethodName := ⟨RX4, "keepIfLess", "(I)V"⟩
def RX5 : String := "ThroatTracks$Text"
def TX5 : u_T := fun k => match k with
  | 0 => ("ThroatTracks$Text", "letters", "[C", true)
  | _ => ("ThroatTracks$Text", "length", "I", false)
def tyX5 : Nat → FieldType := fun k => match k with
  | 0 => .array .char
  | _ => .int
theorem nmX5 : ∀ a, a < 2 → ∀ b, b < 2 → a ≠ b → (TX5 a).2.1 ≠ (TX5 b).2.1 := by decide +kernel
theorem tyX5_ok : ∀ k, k < 2 → parseFieldDescriptor (TX5 k).2.2.1 = some (tyX5 k) := by decide +kernel
abbrev cX5_init : ByteArray := prog_7_method_1_code
def yX5_init : MethodName := ⟨RX5, "<init>", "()V"⟩
abbrev cX5_append : ByteArray := prog_7_method_2_code
def yX5_append : MethodName := ⟨RX5, "append", "(I)Z"⟩
abbrev cX5_letterAt : ByteArray := prog_7_method_3_code
def yX5_letterAt : MethodName := ⟨RX5, "letterAt", "(I)I"⟩
def RX6 : String := "ThroatTracks$Yard"
def TX6 : u_T := fun k => match k with
  | 0 => ("ThroatTracks$Yard", "lines", "I", false)
  | 1 => ("ThroatTracks$Yard", "tracks", "I", false)
  | 2 => ("ThroatTracks$Yard", "trains", "I", false)
  | 3 => ("ThroatTracks$Yard", "gap", "I", false)
  | 4 => ("ThroatTracks$Yard", "routes", "[I", true)
  | 5 => ("ThroatTracks$Yard", "lineIn", "[I", true)
  | 6 => ("ThroatTracks$Yard", "lineOut", "[I", true)
  | _ => ("ThroatTracks$Yard", "mate", "[I", true)
def tyX6 : Nat → FieldType := fun k => match k with
  | 0 => .int
  | 1 => .int
  | 2 => .int
  | 3 => .int
  | 4 => .array .int
  | 5 => .array .int
  | 6 => .array .int
  | _ => .array .int
theorem nmX6 : ∀ a, a < 8 → ∀ b, b < 8 → a ≠ b → (TX6 a).2.1 ≠ (TX6 b).2.1 := by decide +kernel
theorem tyX6_ok : ∀ k, k < 8 → parseFieldDescriptor (TX6 k).2.2.1 = some (tyX6 k) := by decide +kernel
abbrev cX6_init : ByteArray := prog_8_method_1_code
def yX6_init : MethodName := ⟨RX6, "<init>", "()V"⟩
abbrev cX6_clear : ByteArray := prog_8_method_2_code
def yX6_clear : MethodName := ⟨RX6, "clear", "()V"⟩
abbrev cX6_hasLine : ByteArray := prog_8_method_3_code
def yX6_hasLine : MethodName := ⟨RX6, "hasLine", "(I)Z"⟩
abbrev cX6_hasTrack : ByteArray := prog_8_method_4_code
def yX6_hasTrack : MethodName := ⟨RX6, "hasTrack", "(I)Z"⟩
abbrev cX6_hasTrain : ByteArray := prog_8_method_5_code
def yX6_hasTrain : MethodName := ⟨RX6, "hasTrain", "(I)Z"⟩
abbrev cX6_switchesOf : ByteArray := prog_8_method_6_code
def yX6_switchesOf : MethodName := ⟨RX6, "switchesOf", "(II)I"⟩
abbrev cX6_routeIn : ByteArray := prog_8_method_7_code
def yX6_routeIn : MethodName := ⟨RX6, "routeIn", "(II)I"⟩
abbrev cX6_routeOut : ByteArray := prog_8_method_8_code
def yX6_routeOut : MethodName := ⟨RX6, "routeOut", "(II)I"⟩
abbrev cX6_fits : ByteArray := prog_8_method_9_code
def yX6_fits : MethodName := ⟨RX6, "fits", "(II)Z"⟩
abbrev cX6_areCoupled : ByteArray := prog_8_method_10_code
def yX6_areCoupled : MethodName := ⟨RX6, "areCoupled", "(II)Z"⟩
def RX7 : String := "ThroatTracks"
def TX7 : u_T := fun k => match k with
  | 0 => ("ThroatTracks", "text", "LThroatTracks$Text;", true)
  | 1 => ("ThroatTracks", "yard", "LThroatTracks$Yard;", true)
  | 2 => ("ThroatTracks", "plan", "LThroatTracks$Plan;", true)
  | 3 => ("ThroatTracks", "reader", "LThroatTracks$Reader;", true)
  | 4 => ("ThroatTracks", "proof", "LThroatTracks$Reader;", true)
  | 5 => ("ThroatTracks", "clashes", "LThroatTracks$Clashes;", true)
  | 6 => ("ThroatTracks", "search", "LThroatTracks$Search;", true)
  | _ => ("ThroatTracks", "past", "LThroatTracks$Past;", true)
def tyX7 : Nat → FieldType := fun k => match k with
  | 0 => .object "ThroatTracks$Text"
  | 1 => .object "ThroatTracks$Yard"
  | 2 => .object "ThroatTracks$Plan"
  | 3 => .object "ThroatTracks$Reader"
  | 4 => .object "ThroatTracks$Reader"
  | 5 => .object "ThroatTracks$Clashes"
  | 6 => .object "ThroatTracks$Search"
  | _ => .object "ThroatTracks$Past"
theorem nmX7 : ∀ a, a < 8 → ∀ b, b < 8 → a ≠ b → (TX7 a).2.1 ≠ (TX7 b).2.1 := by decide +kernel
theorem tyX7_ok : ∀ k, k < 8 → parseFieldDescriptor (TX7 k).2.2.1 = some (tyX7 k) := by decide +kernel
abbrev cX7_init : ByteArray := prog_1_method_1_code
def yX7_init : MethodName := ⟨RX7, "<init>", "()V"⟩
abbrev cX7_write : ByteArray := prog_1_method_2_code
def yX7_write : MethodName := ⟨RX7, "write", "(I)I"⟩
abbrev cX7_wipe : ByteArray := prog_1_method_3_code
def yX7_wipe : MethodName := ⟨RX7, "wipe", "()I"⟩
abbrev cX7_fault : ByteArray := prog_1_method_4_code
def yX7_fault : MethodName := ⟨RX7, "fault", "()I"⟩
abbrev cX7_lay : ByteArray := prog_1_method_5_code
def yX7_lay : MethodName := ⟨RX7, "lay", "()I"⟩
abbrev cX7_route : ByteArray := prog_1_method_6_code
def yX7_route : MethodName := ⟨RX7, "route", "(II)I"⟩
abbrev cX7_train : ByteArray := prog_1_method_7_code
def yX7_train : MethodName := ⟨RX7, "train", "(II)I"⟩
abbrev cX7_fittingTracks : ByteArray := prog_1_method_8_code
def yX7_fittingTracks : MethodName := ⟨RX7, "fittingTracks", "(I)I"⟩
abbrev cX7_give : ByteArray := prog_1_method_9_code
def yX7_give : MethodName := ⟨RX7, "give", "(II)I"⟩
abbrev cX7_take : ByteArray := prog_1_method_10_code
def yX7_take : MethodName := ⟨RX7, "take", "(I)I"⟩
abbrev cX7_why : ByteArray := prog_1_method_11_code
def yX7_why : MethodName := ⟨RX7, "why", "(II)I"⟩
abbrev cX7_clash : ByteArray := prog_1_method_12_code
def yX7_clash : MethodName := ⟨RX7, "clash", "(IIII)I"⟩
abbrev cX7_late : ByteArray := prog_1_method_13_code
def yX7_late : MethodName := ⟨RX7, "late", "(II)I"⟩
abbrev cX7_wish : ByteArray := prog_1_method_14_code
def yX7_wish : MethodName := ⟨RX7, "wish", "(II)I"⟩
abbrev cX7_way : ByteArray := prog_1_method_15_code
def yX7_way : MethodName := ⟨RX7, "way", "(II)I"⟩
abbrev cX7_adopt : ByteArray := prog_1_method_16_code
def yX7_adopt : MethodName := ⟨RX7, "adopt", "(I)I"⟩
abbrev cX7_without : ByteArray := prog_1_method_17_code
def yX7_without : MethodName := ⟨RX7, "without", "(I)I"⟩
abbrev cX7_undo : ByteArray := prog_1_method_18_code
def yX7_undo : MethodName := ⟨RX7, "undo", "()I"⟩
abbrev cX7_on : ByteArray := prog_1_method_19_code
def yX7_on : MethodName := ⟨RX7, "on", "(II)I"⟩
abbrev cX7_taken : ByteArray := prog_1_method_20_code
def yX7_taken : MethodName := ⟨RX7, "taken", "(I)I"⟩
abbrev cX7_use : ByteArray := prog_1_method_21_code
def yX7_use : MethodName := ⟨RX7, "use", "(II)I"⟩
abbrev cX7_count : ByteArray := prog_1_method_22_code
def yX7_count : MethodName := ⟨RX7, "count", "(I)I"⟩
abbrev cX7_placedTrains : ByteArray := prog_1_method_23_code
def yX7_placedTrains : MethodName := ⟨RX7, "placedTrains", "()I"⟩
abbrev cX7_wishesMet : ByteArray := prog_1_method_24_code
def yX7_wishesMet : MethodName := ⟨RX7, "wishesMet", "([I)I"⟩
abbrev cX7_movedBy : ByteArray := prog_1_method_25_code
def yX7_movedBy : MethodName := ⟨RX7, "movedBy", "([I)I"⟩
abbrev cX7_trainsOn : ByteArray := prog_1_method_26_code
def yX7_trainsOn : MethodName := ⟨RX7, "trainsOn", "(II)I"⟩
abbrev cX7_switchesIn : ByteArray := prog_1_method_27_code
def yX7_switchesIn : MethodName := ⟨RX7, "switchesIn", "(I)I"⟩
abbrev cX7_minutesOfTrack : ByteArray := prog_1_method_28_code
def yX7_minutesOfTrack : MethodName := ⟨RX7, "minutesOfTrack", "(I)I"⟩
abbrev cX7_minutesOfSwitch : ByteArray := prog_1_method_29_code
def yX7_minutesOfSwitch : MethodName := ⟨RX7, "minutesOfSwitch", "(I)I"⟩
def RX8 : String := "ThroatTracksModel"
def TX8 : u_T := fun k => match k with
  | 0 => ("ThroatTracksModel", "now", "[I", true)
  | 1 => ("ThroatTracksModel", "read", "[I", true)
  | 2 => ("ThroatTracksModel", "past", "[I", true)
  | 3 => ("ThroatTracksModel", "changes", "I", false)
  | 4 => ("ThroatTracksModel", "text", "[I", true)
  | 5 => ("ThroatTracksModel", "letters", "I", false)
  | 6 => ("ThroatTracksModel", "spot", "I", false)
  | 7 => ("ThroatTracksModel", "told", "[I", true)
  | 8 => ("ThroatTracksModel", "many", "I", false)
  | 9 => ("ThroatTracksModel", "canHave", "[Z", true)
  | 10 => ("ThroatTracksModel", "clashes", "[Z", true)
  | 11 => ("ThroatTracksModel", "tried", "[I", true)
  | 12 => ("ThroatTracksModel", "found", "[I", true)
  | 13 => ("ThroatTracksModel", "foundNone", "I", false)
  | _ => ("ThroatTracksModel", "foundLike", "I", false)
def tyX8 : Nat → FieldType := fun k => match k with
  | 0 => .array .int
  | 1 => .array .int
  | 2 => .array .int
  | 3 => .int
  | 4 => .array .int
  | 5 => .int
  | 6 => .int
  | 7 => .array .int
  | 8 => .int
  | 9 => .array .boolean
  | 10 => .array .boolean
  | 11 => .array .int
  | 12 => .array .int
  | 13 => .int
  | _ => .int
theorem nmX8 : ∀ a, a < 15 → ∀ b, b < 15 → a ≠ b → (TX8 a).2.1 ≠ (TX8 b).2.1 := by decide +kernel
theorem tyX8_ok : ∀ k, k < 15 → parseFieldDescriptor (TX8 k).2.2.1 = some (tyX8 k) := by decide +kernel
abbrev cX8_init : ByteArray := prog_10_method_1_code
def yX8_init : MethodName := ⟨RX8, "<init>", "()V"⟩
abbrev cX8_in : ByteArray := prog_10_method_3_code
def yX8_in : MethodName := ⟨RX8, "in", "(III)Z"⟩
abbrev cX8_begins : ByteArray := prog_10_method_4_code
def yX8_begins : MethodName := ⟨RX8, "begins", "()V"⟩
abbrev cX8_comes : ByteArray := prog_10_method_5_code
def yX8_comes : MethodName := ⟨RX8, "comes", "(IIIII)V"⟩
abbrev cX8_takesAll : ByteArray := prog_10_method_6_code
def yX8_takesAll : MethodName := ⟨RX8, "takesAll", "()V"⟩
abbrev cX8_isAt : ByteArray := prog_10_method_7_code
def yX8_isAt : MethodName := ⟨RX8, "isAt", "(II)Z"⟩
abbrev cX8_isWord : ByteArray := prog_10_method_8_code
def yX8_isWord : MethodName := ⟨RX8, "isWord", "(IIII)Z"⟩
abbrev cX8_takesNumber : ByteArray := prog_10_method_9_code
def yX8_takesNumber : MethodName := ⟨RX8, "takesNumber", "()Z"⟩
abbrev cX8_takesNumbers : ByteArray := prog_10_method_10_code
def yX8_takesNumbers : MethodName := ⟨RX8, "takesNumbers", "(II)Z"⟩
abbrev cX8_takesYard : ByteArray := prog_10_method_11_code
def yX8_takesYard : MethodName := ⟨RX8, "takesYard", "()Z"⟩
abbrev cX8_takesPath : ByteArray := prog_10_method_12_code
def yX8_takesPath : MethodName := ⟨RX8, "takesPath", "()Z"⟩
abbrev cX8_takesTrain : ByteArray := prog_10_method_13_code
def yX8_takesTrain : MethodName := ⟨RX8, "takesTrain", "()Z"⟩
abbrev cX8_takesPair : ByteArray := prog_10_method_14_code
def yX8_takesPair : MethodName := ⟨RX8, "takesPair", "()Z"⟩
abbrev cX8_takesGap : ByteArray := prog_10_method_15_code
def yX8_takesGap : MethodName := ⟨RX8, "takesGap", "()Z"⟩
abbrev cX8_takesItem : ByteArray := prog_10_method_16_code
def yX8_takesItem : MethodName := ⟨RX8, "takesItem", "()Z"⟩
abbrev cX8_reads : ByteArray := prog_10_method_17_code
def yX8_reads : MethodName := ⟨RX8, "reads", "()I"⟩
abbrev cX8_write : ByteArray := prog_10_method_18_code
def yX8_write : MethodName := ⟨RX8, "write", "(I)I"⟩
abbrev cX8_wipe : ByteArray := prog_10_method_19_code
def yX8_wipe : MethodName := ⟨RX8, "wipe", "()I"⟩
abbrev cX8_fault : ByteArray := prog_10_method_20_code
def yX8_fault : MethodName := ⟨RX8, "fault", "()I"⟩
abbrev cX8_lay : ByteArray := prog_10_method_21_code
def yX8_lay : MethodName := ⟨RX8, "lay", "()I"⟩
abbrev cX8_keeps : ByteArray := prog_10_method_22_code
def yX8_keeps : MethodName := ⟨RX8, "keeps", "()V"⟩
abbrev cX8_undo : ByteArray := prog_10_method_23_code
def yX8_undo : MethodName := ⟨RX8, "undo", "()I"⟩
abbrev cX8_isTrack : ByteArray := prog_10_method_24_code
def yX8_isTrack : MethodName := ⟨RX8, "isTrack", "(I)Z"⟩
abbrev cX8_isTrain : ByteArray := prog_10_method_25_code
def yX8_isTrain : MethodName := ⟨RX8, "isTrain", "(I)Z"⟩
abbrev cX8_of : ByteArray := prog_10_method_26_code
def yX8_of : MethodName := ⟨RX8, "of", "(II)I"⟩
abbrev cX8_becomes : ByteArray := prog_10_method_27_code
def yX8_becomes : MethodName := ⟨RX8, "becomes", "(III)V"⟩
abbrev cX8_routeOf : ByteArray := prog_10_method_28_code
def yX8_routeOf : MethodName := ⟨RX8, "routeOf", "(II)I"⟩
abbrev cX8_route : ByteArray := prog_10_method_29_code
def yX8_route : MethodName := ⟨RX8, "route", "(II)I"⟩
abbrev cX8_wayIn : ByteArray := prog_10_method_30_code
def yX8_wayIn : MethodName := ⟨RX8, "wayIn", "(II)I"⟩
abbrev cX8_wayOut : ByteArray := prog_10_method_31_code
def yX8_wayOut : MethodName := ⟨RX8, "wayOut", "(II)I"⟩
abbrev cX8_doesFit : ByteArray := prog_10_method_32_code
def yX8_doesFit : MethodName := ⟨RX8, "doesFit", "(II)Z"⟩
abbrev cX8_meet : ByteArray := prog_10_method_33_code
def yX8_meet : MethodName := ⟨RX8, "meet", "(II)Z"⟩
abbrev cX8_clashOf : ByteArray := prog_10_method_34_code
def yX8_clashOf : MethodName := ⟨RX8, "clashOf", "(IIII)I"⟩
abbrev cX8_clashing : ByteArray := prog_10_method_35_code
def yX8_clashing : MethodName := ⟨RX8, "clashing", "(II)I"⟩
abbrev cX8_whyNot : ByteArray := prog_10_method_36_code
def yX8_whyNot : MethodName := ⟨RX8, "whyNot", "(II)I"⟩
abbrev cX8_fits : ByteArray := prog_10_method_37_code
def yX8_fits : MethodName := ⟨RX8, "fits", "(I)I"⟩
abbrev cX8_hardOf : ByteArray := prog_10_method_38_code
def yX8_hardOf : MethodName := ⟨RX8, "hardOf", "(I)I"⟩
abbrev cX8_train : ByteArray := prog_10_method_39_code
def yX8_train : MethodName := ⟨RX8, "train", "(II)I"⟩
abbrev cX8_placed : ByteArray := prog_10_method_40_code
def yX8_placed : MethodName := ⟨RX8, "placed", "()I"⟩
abbrev cX8_give : ByteArray := prog_10_method_41_code
def yX8_give : MethodName := ⟨RX8, "give", "(II)I"⟩
abbrev cX8_take : ByteArray := prog_10_method_42_code
def yX8_take : MethodName := ⟨RX8, "take", "(I)I"⟩
abbrev cX8_why : ByteArray := prog_10_method_43_code
def yX8_why : MethodName := ⟨RX8, "why", "(II)I"⟩
abbrev cX8_clash : ByteArray := prog_10_method_44_code
def yX8_clash : MethodName := ⟨RX8, "clash", "(IIII)I"⟩
abbrev cX8_late : ByteArray := prog_10_method_45_code
def yX8_late : MethodName := ⟨RX8, "late", "(II)I"⟩
abbrev cX8_wish : ByteArray := prog_10_method_46_code
def yX8_wish : MethodName := ⟨RX8, "wish", "(II)I"⟩
abbrev cX8_laysClashes : ByteArray := prog_10_method_47_code
def yX8_laysClashes : MethodName := ⟨RX8, "laysClashes", "(I)V"⟩
abbrev cX8_may : ByteArray := prog_10_method_48_code
def yX8_may : MethodName := ⟨RX8, "may", "(II)Z"⟩
abbrev cX8_asTrack : ByteArray := prog_10_method_49_code
def yX8_asTrack : MethodName := ⟨RX8, "asTrack", "(I)I"⟩
abbrev cX8_like : ByteArray := prog_10_method_50_code
def yX8_like : MethodName := ⟨RX8, "like", "(II)I"⟩
abbrev cX8_noneOf : ByteArray := prog_10_method_51_code
def yX8_noneOf : MethodName := ⟨RX8, "noneOf", "(I)I"⟩
abbrev cX8_takesIfBetter : ByteArray := prog_10_method_52_code
def yX8_takesIfBetter : MethodName := ⟨RX8, "takesIfBetter", "(I)V"⟩
abbrev cX8_isWorth : ByteArray := prog_10_method_53_code
def yX8_isWorth : MethodName := ⟨RX8, "isWorth", "(II)Z"⟩
abbrev cX8_findsWay : ByteArray := prog_10_method_54_code
def yX8_findsWay : MethodName := ⟨RX8, "findsWay", "(II)V"⟩
abbrev cX8_otherwise : ByteArray := prog_10_method_55_code
def yX8_otherwise : MethodName := ⟨RX8, "otherwise", "()I"⟩
abbrev cX8_wished : ByteArray := prog_10_method_56_code
def yX8_wished : MethodName := ⟨RX8, "wished", "()I"⟩
abbrev cX8_way : ByteArray := prog_10_method_57_code
def yX8_way : MethodName := ⟨RX8, "way", "(II)I"⟩
abbrev cX8_adopt : ByteArray := prog_10_method_58_code
def yX8_adopt : MethodName := ⟨RX8, "adopt", "(I)I"⟩
abbrev cX8_without : ByteArray := prog_10_method_59_code
def yX8_without : MethodName := ⟨RX8, "without", "(I)I"⟩
abbrev cX8_onTrack : ByteArray := prog_10_method_60_code
def yX8_onTrack : MethodName := ⟨RX8, "onTrack", "(II)I"⟩
abbrev cX8_on : ByteArray := prog_10_method_61_code
def yX8_on : MethodName := ⟨RX8, "on", "(II)I"⟩
abbrev cX8_takenIn : ByteArray := prog_10_method_62_code
def yX8_takenIn : MethodName := ⟨RX8, "takenIn", "(I)I"⟩
abbrev cX8_taken : ByteArray := prog_10_method_63_code
def yX8_taken : MethodName := ⟨RX8, "taken", "(I)I"⟩
abbrev cX8_use : ByteArray := prog_10_method_64_code
def yX8_use : MethodName := ⟨RX8, "use", "(II)I"⟩
abbrev cX8_asWished : ByteArray := prog_10_method_65_code
def yX8_asWished : MethodName := ⟨RX8, "asWished", "()I"⟩
abbrev cX8_count : ByteArray := prog_10_method_66_code
def yX8_count : MethodName := ⟨RX8, "count", "(I)I"⟩
def RJ9 : String := "java/lang/Math"
def TJ9 : u_T := fun k => match k with
  | _ => ("", "", "", false)
def tyJ9 : Nat → FieldType := fun k => match k with
  | _ => .int
theorem nmJ9 : ∀ a, a < 0 → ∀ b, b < 0 → a ≠ b → (TJ9 a).2.1 ≠ (TJ9 b).2.1 := by decide +kernel
theorem tyJ9_ok : ∀ k, k < 0 → parseFieldDescriptor (TJ9 k).2.2.1 = some (tyJ9 k) := by decide +kernel
abbrev cJ9_max_7cf53 : ByteArray := prog_11_method_65_code
def yJ9_max_7cf53 : MethodName := ⟨RJ9, "max", "(II)I"⟩
abbrev cJ9_min_7cf53 : ByteArray := prog_11_method_69_code
def yJ9_min_7cf53 : MethodName := ⟨RJ9, "min", "(II)I"⟩
def RJ0 : String := "java/lang/String"
def TJ0 : u_T := fun k => match k with
  | _ => ("", "", "", false)
def tyJ0 : Nat → FieldType := fun k => match k with
  | _ => .int
theorem nmJ0 : ∀ a, a < 0 → ∀ b, b < 0 → a ≠ b → (TJ0 a).2.1 ≠ (TJ0 b).2.1 := by decide +kernel
theorem tyJ0_ok : ∀ k, k < 0 → parseFieldDescriptor (TJ0 k).2.2.1 = some (tyJ0 k) := by decide +kernel
abbrev cJ0_length_8abf5 : ByteArray := prog_12_method_54_code
def yJ0_length_8abf5 : MethodName := ⟨RJ0, "length", "()I"⟩
abbrev cJ0_charAt_5068e : ByteArray := prog_12_method_56_code
def yJ0_charAt_5068e : MethodName := ⟨RJ0, "charAt", "(I)C"⟩
abbrev cJ0_coder_7d493 : ByteArray := prog_12_method_152_code
def yJ0_coder_7d493 : MethodName := ⟨RJ0, "coder", "()B"⟩
abbrev cJ0_isLatin1_aae02 : ByteArray := prog_12_method_154_code
def yJ0_isLatin1_aae02 : MethodName := ⟨RJ0, "isLatin1", "()Z"⟩
abbrev cJ0_checkIndex_df160 : ByteArray := prog_12_method_155_code
def yJ0_checkIndex_df160 : MethodName := ⟨RJ0, "checkIndex", "(II)V"⟩
def RJ1 : String := "java/lang/StringLatin1"
def TJ1 : u_T := fun k => match k with
  | _ => ("", "", "", false)
def tyJ1 : Nat → FieldType := fun k => match k with
  | _ => .int
theorem nmJ1 : ∀ a, a < 0 → ∀ b, b < 0 → a ≠ b → (TJ1 a).2.1 ≠ (TJ1 b).2.1 := by decide +kernel
theorem tyJ1_ok : ∀ k, k < 0 → parseFieldDescriptor (TJ1 k).2.2.1 = some (tyJ1 k) := by decide +kernel
abbrev cJ1_charAt_3b067 : ByteArray := prog_13_method_2_code
def yJ1_charAt_3b067 : MethodName := ⟨RJ1, "charAt", "([BI)C"⟩
def RJ2 : String := "java/lang/StringUTF16"
def TJ2 : u_T := fun k => match k with
  | _ => ("", "", "", false)
def tyJ2 : Nat → FieldType := fun k => match k with
  | _ => .int
theorem nmJ2 : ∀ a, a < 0 → ∀ b, b < 0 → a ≠ b → (TJ2 a).2.1 ≠ (TJ2 b).2.1 := by decide +kernel
theorem tyJ2_ok : ∀ k, k < 0 → parseFieldDescriptor (TJ2 k).2.2.1 = some (tyJ2 k) := by decide +kernel
abbrev cJ2_getChar_3b067 : ByteArray := prog_14_method_5_code
def yJ2_getChar_3b067 : MethodName := ⟨RJ2, "getChar", "([BI)C"⟩
abbrev cJ2_length_9d52b : ByteArray := prog_14_method_6_code
def yJ2_length_9d52b : MethodName := ⟨RJ2, "length", "([B)I"⟩
abbrev cJ2_charAt_3b067 : ByteArray := prog_14_method_83_code
def yJ2_charAt_3b067 : MethodName := ⟨RJ2, "charAt", "([BI)C"⟩
abbrev cJ2_checkIndex_2214a : ByteArray := prog_14_method_91_code
def yJ2_checkIndex_2214a : MethodName := ⟨RJ2, "checkIndex", "(I[B)V"⟩
def RJ10 : String := "java/lang/System"
def TJ10 : u_T := fun k => match k with
  | _ => ("", "", "", false)
def tyJ10 : Nat → FieldType := fun k => match k with
  | _ => .int
theorem nmJ10 : ∀ a, a < 0 → ∀ b, b < 0 → a ≠ b → (TJ10 a).2.1 ≠ (TJ10 b).2.1 := by decide +kernel
theorem tyJ10_ok : ∀ k, k < 0 → parseFieldDescriptor (TJ10 k).2.2.1 = some (tyJ10 k) := by decide +kernel
def RJ3 : String := "jdk/internal/util/Preconditions"
def TJ3 : u_T := fun k => match k with
  | _ => ("", "", "", false)
def tyJ3 : Nat → FieldType := fun k => match k with
  | _ => .int
theorem nmJ3 : ∀ a, a < 0 → ∀ b, b < 0 → a ≠ b → (TJ3 a).2.1 ≠ (TJ3 b).2.1 := by decide +kernel
theorem tyJ3_ok : ∀ k, k < 0 → parseFieldDescriptor (TJ3 k).2.2.1 = some (tyJ3 k) := by decide +kernel
abbrev cJ3_checkIndex_8e157 : ByteArray := prog_16_method_11_code
def yJ3_checkIndex_8e157 : MethodName := ⟨RJ3, "checkIndex", "(IILjava/util/function/BiFunction;)I"⟩
def RL : String := "ThroatTracksLaw"
abbrev cL_law : ByteArray := code
def yL_law : MethodName := ⟨RL, "law", "([I)Z"⟩
abbrev vwCl : List vw_C := [(RX0, TX0, 3), (RX1, TX1, 3), (RX2, TX2, 4), (RX3, TX3, 5), (RX4, TX4, 8), (RX5, TX5, 2), (RX6, TX6, 8), (RX7, TX7, 8), (RX8, TX8, 15)]
end
section
theorem dX0_init_0 : decode cX0_init 0 = .ok (.aload_n 0, 1) := by decide +kernel
theorem dX0_init_1 : decode cX0_init 1 = .ok (.invokespecial 3, 3) := by decide +kernel
theorem dX0_init_4 : decode cX0_init 4 = .ok (.aload_n 0, 1) := by decide +kernel
theorem dX0_init_5 : decode cX0_init 5 = .ok (.bipush 28, 2) := by decide +kernel
theorem dX0_init_7 : decode cX0_init 7 = .ok (.newarray .int, 2) := by decide +kernel
theorem dX0_init_9 : decode cX0_init 9 = .ok (.putfield 9, 3) := by decide +kernel
theorem dX0_init_12 : decode cX0_init 12 = .ok (.aload_n 0, 1) := by decide +kernel
theorem dX0_init_13 : decode cX0_init 13 = .ok (.aload_n 1, 1) := by decide +kernel
theorem dX0_init_14 : decode cX0_init 14 = .ok (.putfield 15, 3) := by decide +kernel
theorem dX0_init_17 : decode cX0_init 17 = .ok (.aload_n 0, 1) := by decide +kernel
theorem dX0_init_18 : decode cX0_init 18 = .ok (.aload_n 2, 1) := by decide +kernel
theorem dX0_init_19 : decode cX0_init 19 = .ok (.putfield 19, 3) := by decide +kernel
theorem dX0_init_22 : decode cX0_init 22 = .ok (.return_, 1) := by decide +kernel
theorem dX0_seat_0 : decode cX0_seat 0 = .ok (.iload_n 0, 1) := by decide +kernel
theorem dX0_seat_1 : decode cX0_seat 1 = .ok (.iconst 4, 1) := by decide +kernel
theorem dX0_seat_2 : decode cX0_seat 2 = .ok (.imul, 1) := by decide +kernel
theorem dX0_seat_3 : decode cX0_seat 3 = .ok (.iload_n 1, 1) := by decide +kernel
theorem dX0_seat_4 : decode cX0_seat 4 = .ok (.iadd, 1) := by decide +kernel
theorem dX0_seat_5 : decode cX0_seat 5 = .ok (.ireturn, 1) := by decide +kernel
theorem dX0_workOut_0 : decode cX0_workOut 0 = .ok (.iconst 0, 1) := by decide +kernel
theorem dX0_workOut_1 : decode cX0_workOut 1 = .ok (.istore_n 1, 1) := by decide +kernel
theorem dX0_workOut_2 : decode cX0_workOut 2 = .ok (.iload_n 1, 1) := by decide +kernel
theorem dX0_workOut_3 : decode cX0_workOut 3 = .ok (.aload_n 0, 1) := by decide +kernel
theorem dX0_workOut_4 : decode cX0_workOut 4 = .ok (.getfield 15, 3) := by decide +kernel
theorem dX0_workOut_7 : decode cX0_workOut 7 = .ok (.getfield 23, 3) := by decide +kernel
theorem dX0_workOut_10 : decode cX0_workOut 10 = .ok (.if_icmp .ge 44, 3) := by decide +kernel
theorem dX0_workOut_13 : decode cX0_workOut 13 = .ok (.iconst 0, 1) := by decide +kernel
theorem dX0_workOut_14 : decode cX0_workOut 14 = .ok (.istore_n 2, 1) := by decide +kernel
theorem dX0_workOut_15 : decode cX0_workOut 15 = .ok (.iload_n 2, 1) := by decide +kernel
theorem dX0_workOut_16 : decode cX0_workOut 16 = .ok (.aload_n 0, 1) := by decide +kernel
theorem dX0_workOut_17 : decode cX0_workOut 17 = .ok (.getfield 15, 3) := by decide +kernel
theorem dX0_workOut_20 : decode cX0_workOut 20 = .ok (.getfield 29, 3) := by decide +kernel
theorem dX0_workOut_23 : decode cX0_workOut 23 = .ok (.if_icmp .ge 25, 3) := by decide +kernel
theorem dX0_workOut_26 : decode cX0_workOut 26 = .ok (.aload_n 0, 1) := by decide +kernel
theorem dX0_workOut_27 : decode cX0_workOut 27 = .ok (.getfield 9, 3) := by decide +kernel
theorem dX0_workOut_30 : decode cX0_workOut 30 = .ok (.iload_n 1, 1) := by decide +kernel
theorem dX0_workOut_31 : decode cX0_workOut 31 = .ok (.iload_n 2, 1) := by decide +kernel
theorem dX0_workOut_32 : decode cX0_workOut 32 = .ok (.invokestatic 32, 3) := by decide +kernel
theorem dX0_workOut_35 : decode cX0_workOut 35 = .ok (.aload_n 0, 1) := by decide +kernel
theorem dX0_workOut_36 : decode cX0_workOut 36 = .ok (.iload_n 1, 1) := by decide +kernel
theorem dX0_workOut_37 : decode cX0_workOut 37 = .ok (.iload_n 2, 1) := by decide +kernel
theorem dX0_workOut_38 : decode cX0_workOut 38 = .ok (.invokevirtual 36, 3) := by decide +kernel
theorem dX0_workOut_41 : decode cX0_workOut 41 = .ok (.iastore, 1) := by decide +kernel
theorem dX0_workOut_42 : decode cX0_workOut 42 = .ok (.iinc 2 1, 3) := by decide +kernel
theorem dX0_workOut_45 : decode cX0_workOut 45 = .ok (.goto (-30), 3) := by decide +kernel
theorem dX0_workOut_48 : decode cX0_workOut 48 = .ok (.iinc 1 1, 3) := by decide +kernel
theorem dX0_workOut_51 : decode cX0_workOut 51 = .ok (.goto (-49), 3) := by decide +kernel
theorem dX0_workOut_54 : decode cX0_workOut 54 = .ok (.return_, 1) := by decide +kernel
theorem dX0_seatsAgainst_0 : decode cX0_seatsAgainst 0 = .ok (.iconst 0, 1) := by decide +kernel
theorem dX0_seatsAgainst_1 : decode cX0_seatsAgainst 1 = .ok (.istore_n 3, 1) := by decide +kernel
theorem dX0_seatsAgainst_2 : decode cX0_seatsAgainst 2 = .ok (.iconst 0, 1) := by decide +kernel
theorem dX0_seatsAgainst_3 : decode cX0_seatsAgainst 3 = .ok (.istore 4, 2) := by decide +kernel
theorem dX0_seatsAgainst_5 : decode cX0_seatsAgainst 5 = .ok (.iload 4, 2) := by decide +kernel
theorem dX0_seatsAgainst_7 : decode cX0_seatsAgainst 7 = .ok (.aload_n 0, 1) := by decide +kernel
theorem dX0_seatsAgainst_8 : decode cX0_seatsAgainst 8 = .ok (.getfield 15, 3) := by decide +kernel
theorem dX0_seatsAgainst_11 : decode cX0_seatsAgainst 11 = .ok (.getfield 23, 3) := by decide +kernel
theorem dX0_seatsAgainst_14 : decode cX0_seatsAgainst 14 = .ok (.if_icmp .ge 61, 3) := by decide +kernel
theorem dX0_seatsAgainst_17 : decode cX0_seatsAgainst 17 = .ok (.iconst 0, 1) := by decide +kernel
theorem dX0_seatsAgainst_18 : decode cX0_seatsAgainst 18 = .ok (.istore 5, 2) := by decide +kernel
theorem dX0_seatsAgainst_20 : decode cX0_seatsAgainst 20 = .ok (.iload 5, 2) := by decide +kernel
theorem dX0_seatsAgainst_22 : decode cX0_seatsAgainst 22 = .ok (.aload_n 0, 1) := by decide +kernel
theorem dX0_seatsAgainst_23 : decode cX0_seatsAgainst 23 = .ok (.getfield 15, 3) := by decide +kernel
theorem dX0_seatsAgainst_26 : decode cX0_seatsAgainst 26 = .ok (.getfield 29, 3) := by decide +kernel
theorem dX0_seatsAgainst_29 : decode cX0_seatsAgainst 29 = .ok (.if_icmp .ge 40, 3) := by decide +kernel
theorem dX0_seatsAgainst_32 : decode cX0_seatsAgainst 32 = .ok (.iload 4, 2) := by decide +kernel
theorem dX0_seatsAgainst_34 : decode cX0_seatsAgainst 34 = .ok (.iload_n 1, 1) := by decide +kernel
theorem dX0_seatsAgainst_35 : decode cX0_seatsAgainst 35 = .ok (.if_icmp .eq 28, 3) := by decide +kernel
theorem dX0_seatsAgainst_38 : decode cX0_seatsAgainst 38 = .ok (.aload_n 0, 1) := by decide +kernel
theorem dX0_seatsAgainst_39 : decode cX0_seatsAgainst 39 = .ok (.iload_n 1, 1) := by decide +kernel
theorem dX0_seatsAgainst_40 : decode cX0_seatsAgainst 40 = .ok (.iload_n 2, 1) := by decide +kernel
theorem dX0_seatsAgainst_41 : decode cX0_seatsAgainst 41 = .ok (.iload 4, 2) := by decide +kernel
theorem dX0_seatsAgainst_43 : decode cX0_seatsAgainst 43 = .ok (.iload 5, 2) := by decide +kernel
theorem dX0_seatsAgainst_45 : decode cX0_seatsAgainst 45 = .ok (.invokevirtual 39, 3) := by decide +kernel
theorem dX0_seatsAgainst_48 : decode cX0_seatsAgainst 48 = .ok (.ifCond .eq 15, 3) := by decide +kernel
theorem dX0_seatsAgainst_51 : decode cX0_seatsAgainst 51 = .ok (.iload_n 3, 1) := by decide +kernel
theorem dX0_seatsAgainst_52 : decode cX0_seatsAgainst 52 = .ok (.iconst 1, 1) := by decide +kernel
theorem dX0_seatsAgainst_53 : decode cX0_seatsAgainst 53 = .ok (.iload 4, 2) := by decide +kernel
theorem dX0_seatsAgainst_55 : decode cX0_seatsAgainst 55 = .ok (.iload 5, 2) := by decide +kernel
theorem dX0_seatsAgainst_57 : decode cX0_seatsAgainst 57 = .ok (.invokestatic 32, 3) := by decide +kernel
theorem dX0_seatsAgainst_60 : decode cX0_seatsAgainst 60 = .ok (.ishl, 1) := by decide +kernel
theorem dX0_seatsAgainst_61 : decode cX0_seatsAgainst 61 = .ok (.ior, 1) := by decide +kernel
theorem dX0_seatsAgainst_62 : decode cX0_seatsAgainst 62 = .ok (.istore_n 3, 1) := by decide +kernel
theorem dX0_seatsAgainst_63 : decode cX0_seatsAgainst 63 = .ok (.iinc 5 1, 3) := by decide +kernel
theorem dX0_seatsAgainst_66 : decode cX0_seatsAgainst 66 = .ok (.goto (-46), 3) := by decide +kernel
theorem dX0_seatsAgainst_69 : decode cX0_seatsAgainst 69 = .ok (.iinc 4 1, 3) := by decide +kernel
theorem dX0_seatsAgainst_72 : decode cX0_seatsAgainst 72 = .ok (.goto (-67), 3) := by decide +kernel
theorem dX0_seatsAgainst_75 : decode cX0_seatsAgainst 75 = .ok (.iload_n 3, 1) := by decide +kernel
theorem dX0_seatsAgainst_76 : decode cX0_seatsAgainst 76 = .ok (.ireturn, 1) := by decide +kernel
theorem dX0_kind_0 : decode cX0_kind 0 = .ok (.aload_n 0, 1) := by decide +kernel
theorem dX0_kind_1 : decode cX0_kind 1 = .ok (.getfield 15, 3) := by decide +kernel
theorem dX0_kind_4 : decode cX0_kind 4 = .ok (.iload_n 1, 1) := by decide +kernel
theorem dX0_kind_5 : decode cX0_kind 5 = .ok (.iload_n 2, 1) := by decide +kernel
theorem dX0_kind_6 : decode cX0_kind 6 = .ok (.invokevirtual 43, 3) := by decide +kernel
theorem dX0_kind_9 : decode cX0_kind 9 = .ok (.ifCond .eq 16, 3) := by decide +kernel
theorem dX0_kind_12 : decode cX0_kind 12 = .ok (.aload_n 0, 1) := by decide +kernel
theorem dX0_kind_13 : decode cX0_kind 13 = .ok (.getfield 15, 3) := by decide +kernel
theorem dX0_kind_16 : decode cX0_kind 16 = .ok (.iload_n 3, 1) := by decide +kernel
theorem dX0_kind_17 : decode cX0_kind 17 = .ok (.iload 4, 2) := by decide +kernel
theorem dX0_kind_19 : decode cX0_kind 19 = .ok (.invokevirtual 43, 3) := by decide +kernel
theorem dX0_kind_22 : decode cX0_kind 22 = .ok (.ifCond .ne 5, 3) := by decide +kernel
theorem dX0_kind_25 : decode cX0_kind 25 = .ok (.iconst 0, 1) := by decide +kernel
theorem dX0_kind_26 : decode cX0_kind 26 = .ok (.ireturn, 1) := by decide +kernel
theorem dX0_kind_27 : decode cX0_kind 27 = .ok (.iload_n 2, 1) := by decide +kernel
theorem dX0_kind_28 : decode cX0_kind 28 = .ok (.iload 4, 2) := by decide +kernel
theorem dX0_kind_30 : decode cX0_kind 30 = .ok (.if_icmp .ne 17, 3) := by decide +kernel
theorem dX0_kind_33 : decode cX0_kind 33 = .ok (.aload_n 0, 1) := by decide +kernel
theorem dX0_kind_34 : decode cX0_kind 34 = .ok (.getfield 15, 3) := by decide +kernel
theorem dX0_kind_37 : decode cX0_kind 37 = .ok (.iload_n 1, 1) := by decide +kernel
theorem dX0_kind_38 : decode cX0_kind 38 = .ok (.iload_n 3, 1) := by decide +kernel
theorem dX0_kind_39 : decode cX0_kind 39 = .ok (.invokevirtual 47, 3) := by decide +kernel
theorem dX0_kind_42 : decode cX0_kind 42 = .ok (.ifCond .eq 5, 3) := by decide +kernel
theorem dX0_kind_45 : decode cX0_kind 45 = .ok (.iconst 0, 1) := by decide +kernel
theorem dX0_kind_46 : decode cX0_kind 46 = .ok (.ireturn, 1) := by decide +kernel
theorem dX0_kind_47 : decode cX0_kind 47 = .ok (.iconst 0, 1) := by decide +kernel
theorem dX0_kind_48 : decode cX0_kind 48 = .ok (.istore 5, 2) := by decide +kernel
theorem dX0_kind_50 : decode cX0_kind 50 = .ok (.iload_n 2, 1) := by decide +kernel
theorem dX0_kind_51 : decode cX0_kind 51 = .ok (.iload 4, 2) := by decide +kernel
theorem dX0_kind_53 : decode cX0_kind 53 = .ok (.if_icmp .ne 27, 3) := by decide +kernel
theorem dX0_kind_56 : decode cX0_kind 56 = .ok (.aload_n 0, 1) := by decide +kernel
theorem dX0_kind_57 : decode cX0_kind 57 = .ok (.iload_n 1, 1) := by decide +kernel
theorem dX0_kind_58 : decode cX0_kind 58 = .ok (.iload_n 3, 1) := by decide +kernel
theorem dX0_kind_59 : decode cX0_kind 59 = .ok (.invokevirtual 50, 3) := by decide +kernel
theorem dX0_kind_62 : decode cX0_kind 62 = .ok (.ifCond .ne 18, 3) := by decide +kernel
theorem dX0_kind_65 : decode cX0_kind 65 = .ok (.aload_n 0, 1) := by decide +kernel
theorem dX0_kind_66 : decode cX0_kind 66 = .ok (.iload_n 3, 1) := by decide +kernel
theorem dX0_kind_67 : decode cX0_kind 67 = .ok (.iload_n 1, 1) := by decide +kernel
theorem dX0_kind_68 : decode cX0_kind 68 = .ok (.invokevirtual 50, 3) := by decide +kernel
theorem dX0_kind_71 : decode cX0_kind 71 = .ok (.ifCond .ne 9, 3) := by decide +kernel
theorem dX0_kind_74 : decode cX0_kind 74 = .ok (.iload 5, 2) := by decide +kernel
theorem dX0_kind_76 : decode cX0_kind 76 = .ok (.iconst 1, 1) := by decide +kernel
theorem dX0_kind_77 : decode cX0_kind 77 = .ok (.ior, 1) := by decide +kernel
theorem dX0_kind_78 : decode cX0_kind 78 = .ok (.istore 5, 2) := by decide +kernel
theorem dX0_kind_80 : decode cX0_kind 80 = .ok (.aload_n 0, 1) := by decide +kernel
theorem dX0_kind_81 : decode cX0_kind 81 = .ok (.iload_n 1, 1) := by decide +kernel
theorem dX0_kind_82 : decode cX0_kind 82 = .ok (.iload_n 2, 1) := by decide +kernel
theorem dX0_kind_83 : decode cX0_kind 83 = .ok (.iload_n 3, 1) := by decide +kernel
theorem dX0_kind_84 : decode cX0_kind 84 = .ok (.iload 4, 2) := by decide +kernel
theorem dX0_kind_86 : decode cX0_kind 86 = .ok (.invokevirtual 53, 3) := by decide +kernel
theorem dX0_kind_89 : decode cX0_kind 89 = .ok (.ifCond .eq 9, 3) := by decide +kernel
theorem dX0_kind_92 : decode cX0_kind 92 = .ok (.iload 5, 2) := by decide +kernel
theorem dX0_kind_94 : decode cX0_kind 94 = .ok (.iconst 2, 1) := by decide +kernel
theorem dX0_kind_95 : decode cX0_kind 95 = .ok (.ior, 1) := by decide +kernel
theorem dX0_kind_96 : decode cX0_kind 96 = .ok (.istore 5, 2) := by decide +kernel
theorem dX0_kind_98 : decode cX0_kind 98 = .ok (.iload 5, 2) := by decide +kernel
theorem dX0_kind_100 : decode cX0_kind 100 = .ok (.ireturn, 1) := by decide +kernel
theorem dX0_isBehind_0 : decode cX0_isBehind 0 = .ok (.aload_n 0, 1) := by decide +kernel
theorem dX0_isBehind_1 : decode cX0_isBehind 1 = .ok (.getfield 19, 3) := by decide +kernel
theorem dX0_isBehind_4 : decode cX0_isBehind 4 = .ok (.getfield 57, 3) := by decide +kernel
theorem dX0_isBehind_7 : decode cX0_isBehind 7 = .ok (.iload_n 1, 1) := by decide +kernel
theorem dX0_isBehind_8 : decode cX0_isBehind 8 = .ok (.iaload, 1) := by decide +kernel
theorem dX0_isBehind_9 : decode cX0_isBehind 9 = .ok (.aload_n 0, 1) := by decide +kernel
theorem dX0_isBehind_10 : decode cX0_isBehind 10 = .ok (.getfield 19, 3) := by decide +kernel
theorem dX0_isBehind_13 : decode cX0_isBehind 13 = .ok (.getfield 62, 3) := by decide +kernel
theorem dX0_isBehind_16 : decode cX0_isBehind 16 = .ok (.iload_n 2, 1) := by decide +kernel
theorem dX0_isBehind_17 : decode cX0_isBehind 17 = .ok (.iaload, 1) := by decide +kernel
theorem dX0_isBehind_18 : decode cX0_isBehind 18 = .ok (.aload_n 0, 1) := by decide +kernel
theorem dX0_isBehind_19 : decode cX0_isBehind 19 = .ok (.getfield 15, 3) := by decide +kernel
theorem dX0_isBehind_22 : decode cX0_isBehind 22 = .ok (.getfield 65, 3) := by decide +kernel
theorem dX0_isBehind_25 : decode cX0_isBehind 25 = .ok (.iconst 1, 1) := by decide +kernel
theorem dX0_isBehind_26 : decode cX0_isBehind 26 = .ok (.invokestatic 68, 3) := by decide +kernel
theorem dX0_isBehind_29 : decode cX0_isBehind 29 = .ok (.iadd, 1) := by decide +kernel
theorem dX0_isBehind_30 : decode cX0_isBehind 30 = .ok (.if_icmp .lt 7, 3) := by decide +kernel
theorem dX0_isBehind_33 : decode cX0_isBehind 33 = .ok (.iconst 1, 1) := by decide +kernel
theorem dX0_isBehind_34 : decode cX0_isBehind 34 = .ok (.goto 4, 3) := by decide +kernel
theorem dX0_isBehind_37 : decode cX0_isBehind 37 = .ok (.iconst 0, 1) := by decide +kernel
theorem dX0_isBehind_38 : decode cX0_isBehind 38 = .ok (.ireturn, 1) := by decide +kernel
theorem dX0_shareSwitch_0 : decode cX0_shareSwitch 0 = .ok (.aload_n 0, 1) := by decide +kernel
theorem dX0_shareSwitch_1 : decode cX0_shareSwitch 1 = .ok (.getfield 15, 3) := by decide +kernel
theorem dX0_shareSwitch_4 : decode cX0_shareSwitch 4 = .ok (.iload_n 1, 1) := by decide +kernel
theorem dX0_shareSwitch_5 : decode cX0_shareSwitch 5 = .ok (.iload_n 2, 1) := by decide +kernel
theorem dX0_shareSwitch_6 : decode cX0_shareSwitch 6 = .ok (.invokevirtual 73, 3) := by decide +kernel
theorem dX0_shareSwitch_9 : decode cX0_shareSwitch 9 = .ok (.istore 5, 2) := by decide +kernel
theorem dX0_shareSwitch_11 : decode cX0_shareSwitch 11 = .ok (.aload_n 0, 1) := by decide +kernel
theorem dX0_shareSwitch_12 : decode cX0_shareSwitch 12 = .ok (.getfield 15, 3) := by decide +kernel
theorem dX0_shareSwitch_15 : decode cX0_shareSwitch 15 = .ok (.iload_n 1, 1) := by decide +kernel
theorem dX0_shareSwitch_16 : decode cX0_shareSwitch 16 = .ok (.iload_n 2, 1) := by decide +kernel
theorem dX0_shareSwitch_17 : decode cX0_shareSwitch 17 = .ok (.invokevirtual 76, 3) := by decide +kernel
theorem dX0_shareSwitch_20 : decode cX0_shareSwitch 20 = .ok (.istore 6, 2) := by decide +kernel
theorem dX0_shareSwitch_22 : decode cX0_shareSwitch 22 = .ok (.aload_n 0, 1) := by decide +kernel
theorem dX0_shareSwitch_23 : decode cX0_shareSwitch 23 = .ok (.getfield 15, 3) := by decide +kernel
theorem dX0_shareSwitch_26 : decode cX0_shareSwitch 26 = .ok (.iload_n 3, 1) := by decide +kernel
theorem dX0_shareSwitch_27 : decode cX0_shareSwitch 27 = .ok (.iload 4, 2) := by decide +kernel
theorem dX0_shareSwitch_29 : decode cX0_shareSwitch 29 = .ok (.invokevirtual 73, 3) := by decide +kernel
theorem dX0_shareSwitch_32 : decode cX0_shareSwitch 32 = .ok (.istore 7, 2) := by decide +kernel
theorem dX0_shareSwitch_34 : decode cX0_shareSwitch 34 = .ok (.aload_n 0, 1) := by decide +kernel
theorem dX0_shareSwitch_35 : decode cX0_shareSwitch 35 = .ok (.getfield 15, 3) := by decide +kernel
theorem dX0_shareSwitch_38 : decode cX0_shareSwitch 38 = .ok (.iload_n 3, 1) := by decide +kernel
theorem dX0_shareSwitch_39 : decode cX0_shareSwitch 39 = .ok (.iload 4, 2) := by decide +kernel
theorem dX0_shareSwitch_41 : decode cX0_shareSwitch 41 = .ok (.invokevirtual 76, 3) := by decide +kernel
theorem dX0_shareSwitch_44 : decode cX0_shareSwitch 44 = .ok (.istore 8, 2) := by decide +kernel
theorem dX0_shareSwitch_46 : decode cX0_shareSwitch 46 = .ok (.aload_n 0, 1) := by decide +kernel
theorem dX0_shareSwitch_47 : decode cX0_shareSwitch 47 = .ok (.getfield 19, 3) := by decide +kernel
theorem dX0_shareSwitch_50 : decode cX0_shareSwitch 50 = .ok (.getfield 57, 3) := by decide +kernel
theorem dX0_shareSwitch_53 : decode cX0_shareSwitch 53 = .ok (.iload_n 1, 1) := by decide +kernel
theorem dX0_shareSwitch_54 : decode cX0_shareSwitch 54 = .ok (.iaload, 1) := by decide +kernel
theorem dX0_shareSwitch_55 : decode cX0_shareSwitch 55 = .ok (.iconst 1, 1) := by decide +kernel
theorem dX0_shareSwitch_56 : decode cX0_shareSwitch 56 = .ok (.isub, 1) := by decide +kernel
theorem dX0_shareSwitch_57 : decode cX0_shareSwitch 57 = .ok (.istore 9, 2) := by decide +kernel
theorem dX0_shareSwitch_59 : decode cX0_shareSwitch 59 = .ok (.aload_n 0, 1) := by decide +kernel
theorem dX0_shareSwitch_60 : decode cX0_shareSwitch 60 = .ok (.getfield 19, 3) := by decide +kernel
theorem dX0_shareSwitch_63 : decode cX0_shareSwitch 63 = .ok (.getfield 57, 3) := by decide +kernel
theorem dX0_shareSwitch_66 : decode cX0_shareSwitch 66 = .ok (.iload_n 3, 1) := by decide +kernel
theorem dX0_shareSwitch_67 : decode cX0_shareSwitch 67 = .ok (.iaload, 1) := by decide +kernel
theorem dX0_shareSwitch_68 : decode cX0_shareSwitch 68 = .ok (.iconst 1, 1) := by decide +kernel
theorem dX0_shareSwitch_69 : decode cX0_shareSwitch 69 = .ok (.isub, 1) := by decide +kernel
theorem dX0_shareSwitch_70 : decode cX0_shareSwitch 70 = .ok (.istore 10, 2) := by decide +kernel
theorem dX0_shareSwitch_72 : decode cX0_shareSwitch 72 = .ok (.iload 5, 2) := by decide +kernel
theorem dX0_shareSwitch_74 : decode cX0_shareSwitch 74 = .ok (.iload 7, 2) := by decide +kernel
theorem dX0_shareSwitch_76 : decode cX0_shareSwitch 76 = .ok (.iand, 1) := by decide +kernel
theorem dX0_shareSwitch_77 : decode cX0_shareSwitch 77 = .ok (.iload 9, 2) := by decide +kernel
theorem dX0_shareSwitch_79 : decode cX0_shareSwitch 79 = .ok (.iload 10, 2) := by decide +kernel
theorem dX0_shareSwitch_81 : decode cX0_shareSwitch 81 = .ok (.invokestatic 79, 3) := by decide +kernel
theorem dX0_shareSwitch_84 : decode cX0_shareSwitch 84 = .ok (.ifCond .ne 76, 3) := by decide +kernel
theorem dX0_shareSwitch_87 : decode cX0_shareSwitch 87 = .ok (.iload 5, 2) := by decide +kernel
theorem dX0_shareSwitch_89 : decode cX0_shareSwitch 89 = .ok (.iload 8, 2) := by decide +kernel
theorem dX0_shareSwitch_91 : decode cX0_shareSwitch 91 = .ok (.iand, 1) := by decide +kernel
theorem dX0_shareSwitch_92 : decode cX0_shareSwitch 92 = .ok (.iload 9, 2) := by decide +kernel
theorem dX0_shareSwitch_94 : decode cX0_shareSwitch 94 = .ok (.aload_n 0, 1) := by decide +kernel
theorem dX0_shareSwitch_95 : decode cX0_shareSwitch 95 = .ok (.getfield 19, 3) := by decide +kernel
theorem dX0_shareSwitch_98 : decode cX0_shareSwitch 98 = .ok (.getfield 62, 3) := by decide +kernel
theorem dX0_shareSwitch_101 : decode cX0_shareSwitch 101 = .ok (.iload_n 3, 1) := by decide +kernel
theorem dX0_shareSwitch_102 : decode cX0_shareSwitch 102 = .ok (.iaload, 1) := by decide +kernel
theorem dX0_shareSwitch_103 : decode cX0_shareSwitch 103 = .ok (.invokestatic 79, 3) := by decide +kernel
theorem dX0_shareSwitch_106 : decode cX0_shareSwitch 106 = .ok (.ifCond .ne 54, 3) := by decide +kernel
theorem dX0_shareSwitch_109 : decode cX0_shareSwitch 109 = .ok (.iload 6, 2) := by decide +kernel
theorem dX0_shareSwitch_111 : decode cX0_shareSwitch 111 = .ok (.iload 7, 2) := by decide +kernel
theorem dX0_shareSwitch_113 : decode cX0_shareSwitch 113 = .ok (.iand, 1) := by decide +kernel
theorem dX0_shareSwitch_114 : decode cX0_shareSwitch 114 = .ok (.aload_n 0, 1) := by decide +kernel
theorem dX0_shareSwitch_115 : decode cX0_shareSwitch 115 = .ok (.getfield 19, 3) := by decide +kernel
theorem dX0_shareSwitch_118 : decode cX0_shareSwitch 118 = .ok (.getfield 62, 3) := by decide +kernel
theorem dX0_shareSwitch_121 : decode cX0_shareSwitch 121 = .ok (.iload_n 1, 1) := by decide +kernel
theorem dX0_shareSwitch_122 : decode cX0_shareSwitch 122 = .ok (.iaload, 1) := by decide +kernel
theorem dX0_shareSwitch_123 : decode cX0_shareSwitch 123 = .ok (.iload 10, 2) := by decide +kernel
theorem dX0_shareSwitch_125 : decode cX0_shareSwitch 125 = .ok (.invokestatic 79, 3) := by decide +kernel
theorem dX0_shareSwitch_128 : decode cX0_shareSwitch 128 = .ok (.ifCond .ne 32, 3) := by decide +kernel
theorem dX0_shareSwitch_131 : decode cX0_shareSwitch 131 = .ok (.iload 6, 2) := by decide +kernel
theorem dX0_shareSwitch_133 : decode cX0_shareSwitch 133 = .ok (.iload 8, 2) := by decide +kernel
theorem dX0_shareSwitch_135 : decode cX0_shareSwitch 135 = .ok (.iand, 1) := by decide +kernel
theorem dX0_shareSwitch_136 : decode cX0_shareSwitch 136 = .ok (.aload_n 0, 1) := by decide +kernel
theorem dX0_shareSwitch_137 : decode cX0_shareSwitch 137 = .ok (.getfield 19, 3) := by decide +kernel
theorem dX0_shareSwitch_140 : decode cX0_shareSwitch 140 = .ok (.getfield 62, 3) := by decide +kernel
theorem dX0_shareSwitch_143 : decode cX0_shareSwitch 143 = .ok (.iload_n 1, 1) := by decide +kernel
theorem dX0_shareSwitch_144 : decode cX0_shareSwitch 144 = .ok (.iaload, 1) := by decide +kernel
theorem dX0_shareSwitch_145 : decode cX0_shareSwitch 145 = .ok (.aload_n 0, 1) := by decide +kernel
theorem dX0_shareSwitch_146 : decode cX0_shareSwitch 146 = .ok (.getfield 19, 3) := by decide +kernel
theorem dX0_shareSwitch_149 : decode cX0_shareSwitch 149 = .ok (.getfield 62, 3) := by decide +kernel
theorem dX0_shareSwitch_152 : decode cX0_shareSwitch 152 = .ok (.iload_n 3, 1) := by decide +kernel
theorem dX0_shareSwitch_153 : decode cX0_shareSwitch 153 = .ok (.iaload, 1) := by decide +kernel
theorem dX0_shareSwitch_154 : decode cX0_shareSwitch 154 = .ok (.invokestatic 79, 3) := by decide +kernel
theorem dX0_shareSwitch_157 : decode cX0_shareSwitch 157 = .ok (.ifCond .eq 7, 3) := by decide +kernel
theorem dX0_shareSwitch_160 : decode cX0_shareSwitch 160 = .ok (.iconst 1, 1) := by decide +kernel
theorem dX0_shareSwitch_161 : decode cX0_shareSwitch 161 = .ok (.goto 4, 3) := by decide +kernel
theorem dX0_shareSwitch_164 : decode cX0_shareSwitch 164 = .ok (.iconst 0, 1) := by decide +kernel
theorem dX0_shareSwitch_165 : decode cX0_shareSwitch 165 = .ok (.ireturn, 1) := by decide +kernel
theorem dX0_meet_0 : decode cX0_meet 0 = .ok (.iload_n 0, 1) := by decide +kernel
theorem dX0_meet_1 : decode cX0_meet 1 = .ok (.ifCond .eq 21, 3) := by decide +kernel
theorem dX0_meet_4 : decode cX0_meet 4 = .ok (.iload_n 1, 1) := by decide +kernel
theorem dX0_meet_5 : decode cX0_meet 5 = .ok (.iload_n 2, 1) := by decide +kernel
theorem dX0_meet_6 : decode cX0_meet 6 = .ok (.isub, 1) := by decide +kernel
theorem dX0_meet_7 : decode cX0_meet 7 = .ok (.iconst 1, 1) := by decide +kernel
theorem dX0_meet_8 : decode cX0_meet 8 = .ok (.if_icmp .gt 14, 3) := by decide +kernel
theorem dX0_meet_11 : decode cX0_meet 11 = .ok (.iload_n 2, 1) := by decide +kernel
theorem dX0_meet_12 : decode cX0_meet 12 = .ok (.iload_n 1, 1) := by decide +kernel
theorem dX0_meet_13 : decode cX0_meet 13 = .ok (.isub, 1) := by decide +kernel
theorem dX0_meet_14 : decode cX0_meet 14 = .ok (.iconst 1, 1) := by decide +kernel
theorem dX0_meet_15 : decode cX0_meet 15 = .ok (.if_icmp .gt 7, 3) := by decide +kernel
theorem dX0_meet_18 : decode cX0_meet 18 = .ok (.iconst 1, 1) := by decide +kernel
theorem dX0_meet_19 : decode cX0_meet 19 = .ok (.goto 4, 3) := by decide +kernel
theorem dX0_meet_22 : decode cX0_meet 22 = .ok (.iconst 0, 1) := by decide +kernel
theorem dX0_meet_23 : decode cX0_meet 23 = .ok (.ireturn, 1) := by decide +kernel
theorem dX0_firstAgainst_0 : decode cX0_firstAgainst 0 = .ok (.aload_n 0, 1) := by decide +kernel
theorem dX0_firstAgainst_1 : decode cX0_firstAgainst 1 = .ok (.getfield 9, 3) := by decide +kernel
theorem dX0_firstAgainst_4 : decode cX0_firstAgainst 4 = .ok (.iload_n 1, 1) := by decide +kernel
theorem dX0_firstAgainst_5 : decode cX0_firstAgainst 5 = .ok (.iload_n 2, 1) := by decide +kernel
theorem dX0_firstAgainst_6 : decode cX0_firstAgainst 6 = .ok (.invokestatic 32, 3) := by decide +kernel
theorem dX0_firstAgainst_9 : decode cX0_firstAgainst 9 = .ok (.iaload, 1) := by decide +kernel
theorem dX0_firstAgainst_10 : decode cX0_firstAgainst 10 = .ok (.istore_n 3, 1) := by decide +kernel
theorem dX0_firstAgainst_11 : decode cX0_firstAgainst 11 = .ok (.iconst 0, 1) := by decide +kernel
theorem dX0_firstAgainst_12 : decode cX0_firstAgainst 12 = .ok (.istore 4, 2) := by decide +kernel
theorem dX0_firstAgainst_14 : decode cX0_firstAgainst 14 = .ok (.iload 4, 2) := by decide +kernel
theorem dX0_firstAgainst_16 : decode cX0_firstAgainst 16 = .ok (.aload_n 0, 1) := by decide +kernel
theorem dX0_firstAgainst_17 : decode cX0_firstAgainst 17 = .ok (.getfield 15, 3) := by decide +kernel
theorem dX0_firstAgainst_20 : decode cX0_firstAgainst 20 = .ok (.getfield 23, 3) := by decide +kernel
theorem dX0_firstAgainst_23 : decode cX0_firstAgainst 23 = .ok (.if_icmp .ge 45, 3) := by decide +kernel
theorem dX0_firstAgainst_26 : decode cX0_firstAgainst 26 = .ok (.aload_n 0, 1) := by decide +kernel
theorem dX0_firstAgainst_27 : decode cX0_firstAgainst 27 = .ok (.getfield 19, 3) := by decide +kernel
theorem dX0_firstAgainst_30 : decode cX0_firstAgainst 30 = .ok (.getfield 83, 3) := by decide +kernel
theorem dX0_firstAgainst_33 : decode cX0_firstAgainst 33 = .ok (.iload 4, 2) := by decide +kernel
theorem dX0_firstAgainst_35 : decode cX0_firstAgainst 35 = .ok (.iaload, 1) := by decide +kernel
theorem dX0_firstAgainst_36 : decode cX0_firstAgainst 36 = .ok (.istore 5, 2) := by decide +kernel
theorem dX0_firstAgainst_38 : decode cX0_firstAgainst 38 = .ok (.iload 5, 2) := by decide +kernel
theorem dX0_firstAgainst_40 : decode cX0_firstAgainst 40 = .ok (.bipush (-4), 2) := by decide +kernel
theorem dX0_firstAgainst_42 : decode cX0_firstAgainst 42 = .ok (.if_icmp .eq 20, 3) := by decide +kernel
theorem dX0_firstAgainst_45 : decode cX0_firstAgainst 45 = .ok (.iload_n 3, 1) := by decide +kernel
theorem dX0_firstAgainst_46 : decode cX0_firstAgainst 46 = .ok (.iload 4, 2) := by decide +kernel
theorem dX0_firstAgainst_48 : decode cX0_firstAgainst 48 = .ok (.iload 5, 2) := by decide +kernel
theorem dX0_firstAgainst_50 : decode cX0_firstAgainst 50 = .ok (.invokestatic 32, 3) := by decide +kernel
theorem dX0_firstAgainst_53 : decode cX0_firstAgainst 53 = .ok (.ishr, 1) := by decide +kernel
theorem dX0_firstAgainst_54 : decode cX0_firstAgainst 54 = .ok (.iconst 1, 1) := by decide +kernel
theorem dX0_firstAgainst_55 : decode cX0_firstAgainst 55 = .ok (.iand, 1) := by decide +kernel
theorem dX0_firstAgainst_56 : decode cX0_firstAgainst 56 = .ok (.ifCond .eq 6, 3) := by decide +kernel
theorem dX0_firstAgainst_59 : decode cX0_firstAgainst 59 = .ok (.iload 4, 2) := by decide +kernel
theorem dX0_firstAgainst_61 : decode cX0_firstAgainst 61 = .ok (.ireturn, 1) := by decide +kernel
theorem dX0_firstAgainst_62 : decode cX0_firstAgainst 62 = .ok (.iinc 4 1, 3) := by decide +kernel
theorem dX0_firstAgainst_65 : decode cX0_firstAgainst 65 = .ok (.goto (-51), 3) := by decide +kernel
theorem dX0_firstAgainst_68 : decode cX0_firstAgainst 68 = .ok (.bipush (-4), 2) := by decide +kernel
theorem dX0_firstAgainst_70 : decode cX0_firstAgainst 70 = .ok (.ireturn, 1) := by decide +kernel
theorem dX0_isFree_0 : decode cX0_isFree 0 = .ok (.aload_n 0, 1) := by decide +kernel
theorem dX0_isFree_1 : decode cX0_isFree 1 = .ok (.getfield 15, 3) := by decide +kernel
theorem dX0_isFree_4 : decode cX0_isFree 4 = .ok (.iload_n 1, 1) := by decide +kernel
theorem dX0_isFree_5 : decode cX0_isFree 5 = .ok (.iload_n 2, 1) := by decide +kernel
theorem dX0_isFree_6 : decode cX0_isFree 6 = .ok (.invokevirtual 43, 3) := by decide +kernel
theorem dX0_isFree_9 : decode cX0_isFree 9 = .ok (.ifCond .eq 18, 3) := by decide +kernel
theorem dX0_isFree_12 : decode cX0_isFree 12 = .ok (.aload_n 0, 1) := by decide +kernel
theorem dX0_isFree_13 : decode cX0_isFree 13 = .ok (.iload_n 1, 1) := by decide +kernel
theorem dX0_isFree_14 : decode cX0_isFree 14 = .ok (.iload_n 2, 1) := by decide +kernel
theorem dX0_isFree_15 : decode cX0_isFree 15 = .ok (.invokevirtual 86, 3) := by decide +kernel
theorem dX0_isFree_18 : decode cX0_isFree 18 = .ok (.bipush (-4), 2) := by decide +kernel
theorem dX0_isFree_20 : decode cX0_isFree 20 = .ok (.if_icmp .ne 7, 3) := by decide +kernel
theorem dX0_isFree_23 : decode cX0_isFree 23 = .ok (.iconst 1, 1) := by decide +kernel
theorem dX0_isFree_24 : decode cX0_isFree 24 = .ok (.goto 4, 3) := by decide +kernel
theorem dX0_isFree_27 : decode cX0_isFree 27 = .ok (.iconst 0, 1) := by decide +kernel
theorem dX0_isFree_28 : decode cX0_isFree 28 = .ok (.ireturn, 1) := by decide +kernel
theorem dX0_freeTracks_0 : decode cX0_freeTracks 0 = .ok (.iconst 0, 1) := by decide +kernel
theorem dX0_freeTracks_1 : decode cX0_freeTracks 1 = .ok (.istore_n 2, 1) := by decide +kernel
theorem dX0_freeTracks_2 : decode cX0_freeTracks 2 = .ok (.iconst 0, 1) := by decide +kernel
theorem dX0_freeTracks_3 : decode cX0_freeTracks 3 = .ok (.istore_n 3, 1) := by decide +kernel
theorem dX0_freeTracks_4 : decode cX0_freeTracks 4 = .ok (.iload_n 3, 1) := by decide +kernel
theorem dX0_freeTracks_5 : decode cX0_freeTracks 5 = .ok (.aload_n 0, 1) := by decide +kernel
theorem dX0_freeTracks_6 : decode cX0_freeTracks 6 = .ok (.getfield 15, 3) := by decide +kernel
theorem dX0_freeTracks_9 : decode cX0_freeTracks 9 = .ok (.getfield 29, 3) := by decide +kernel
theorem dX0_freeTracks_12 : decode cX0_freeTracks 12 = .ok (.if_icmp .ge 21, 3) := by decide +kernel
theorem dX0_freeTracks_15 : decode cX0_freeTracks 15 = .ok (.aload_n 0, 1) := by decide +kernel
theorem dX0_freeTracks_16 : decode cX0_freeTracks 16 = .ok (.iload_n 1, 1) := by decide +kernel
theorem dX0_freeTracks_17 : decode cX0_freeTracks 17 = .ok (.iload_n 3, 1) := by decide +kernel
theorem dX0_freeTracks_18 : decode cX0_freeTracks 18 = .ok (.invokevirtual 89, 3) := by decide +kernel
theorem dX0_freeTracks_21 : decode cX0_freeTracks 21 = .ok (.ifCond .eq 6, 3) := by decide +kernel
theorem dX0_freeTracks_24 : decode cX0_freeTracks 24 = .ok (.iinc 2 1, 3) := by decide +kernel
theorem dX0_freeTracks_27 : decode cX0_freeTracks 27 = .ok (.iinc 3 1, 3) := by decide +kernel
theorem dX0_freeTracks_30 : decode cX0_freeTracks 30 = .ok (.goto (-26), 3) := by decide +kernel
theorem dX0_freeTracks_33 : decode cX0_freeTracks 33 = .ok (.iload_n 2, 1) := by decide +kernel
theorem dX0_freeTracks_34 : decode cX0_freeTracks 34 = .ok (.ireturn, 1) := by decide +kernel
theorem dX1_init_0 : decode cX1_init 0 = .ok (.aload_n 0, 1) := by decide +kernel
theorem dX1_init_1 : decode cX1_init 1 = .ok (.invokespecial 3, 3) := by decide +kernel
theorem dX1_init_4 : decode cX1_init 4 = .ok (.aload_n 0, 1) := by decide +kernel
theorem dX1_init_5 : decode cX1_init 5 = .ok (.bipush 6, 2) := by decide +kernel
theorem dX1_init_7 : decode cX1_init 7 = .ok (.anewarray 9, 3) := by decide +kernel
theorem dX1_init_10 : decode cX1_init 10 = .ok (.putfield 11, 3) := by decide +kernel
theorem dX1_init_13 : decode cX1_init 13 = .ok (.aload_n 0, 1) := by decide +kernel
theorem dX1_init_14 : decode cX1_init 14 = .ok (.iconst 0, 1) := by decide +kernel
theorem dX1_init_15 : decode cX1_init 15 = .ok (.putfield 17, 3) := by decide +kernel
theorem dX1_init_18 : decode cX1_init 18 = .ok (.aload_n 0, 1) := by decide +kernel
theorem dX1_init_19 : decode cX1_init 19 = .ok (.iconst 0, 1) := by decide +kernel
theorem dX1_init_20 : decode cX1_init 20 = .ok (.putfield 21, 3) := by decide +kernel
theorem dX1_init_23 : decode cX1_init 23 = .ok (.iconst 0, 1) := by decide +kernel
theorem dX1_init_24 : decode cX1_init 24 = .ok (.istore_n 1, 1) := by decide +kernel
theorem dX1_init_25 : decode cX1_init 25 = .ok (.iload_n 1, 1) := by decide +kernel
theorem dX1_init_26 : decode cX1_init 26 = .ok (.bipush 6, 2) := by decide +kernel
theorem dX1_init_28 : decode cX1_init 28 = .ok (.if_icmp .ge 22, 3) := by decide +kernel
theorem dX1_init_31 : decode cX1_init 31 = .ok (.aload_n 0, 1) := by decide +kernel
theorem dX1_init_32 : decode cX1_init 32 = .ok (.getfield 11, 3) := by decide +kernel
theorem dX1_init_35 : decode cX1_init 35 = .ok (.iload_n 1, 1) := by decide +kernel
theorem dX1_init_36 : decode cX1_init 36 = .ok (.new 9, 3) := by decide +kernel
theorem dX1_init_39 : decode cX1_init 39 = .ok (.dup, 1) := by decide +kernel
theorem dX1_init_40 : decode cX1_init 40 = .ok (.invokespecial 24, 3) := by decide +kernel
theorem dX1_init_43 : decode cX1_init 43 = .ok (.aastore, 1) := by decide +kernel
theorem dX1_init_44 : decode cX1_init 44 = .ok (.iinc 1 1, 3) := by decide +kernel
theorem dX1_init_47 : decode cX1_init 47 = .ok (.goto (-22), 3) := by decide +kernel
theorem dX1_init_50 : decode cX1_init 50 = .ok (.return_, 1) := by decide +kernel
theorem dX1_keep_0 : decode cX1_keep 0 = .ok (.aload_n 0, 1) := by decide +kernel
theorem dX1_keep_1 : decode cX1_keep 1 = .ok (.getfield 11, 3) := by decide +kernel
theorem dX1_keep_4 : decode cX1_keep 4 = .ok (.aload_n 0, 1) := by decide +kernel
theorem dX1_keep_5 : decode cX1_keep 5 = .ok (.getfield 17, 3) := by decide +kernel
theorem dX1_keep_8 : decode cX1_keep 8 = .ok (.aaload, 1) := by decide +kernel
theorem dX1_keep_9 : decode cX1_keep 9 = .ok (.aload_n 1, 1) := by decide +kernel
theorem dX1_keep_10 : decode cX1_keep 10 = .ok (.invokevirtual 25, 3) := by decide +kernel
theorem dX1_keep_13 : decode cX1_keep 13 = .ok (.aload_n 0, 1) := by decide +kernel
theorem dX1_keep_14 : decode cX1_keep 14 = .ok (.aload_n 0, 1) := by decide +kernel
theorem dX1_keep_15 : decode cX1_keep 15 = .ok (.getfield 17, 3) := by decide +kernel
theorem dX1_keep_18 : decode cX1_keep 18 = .ok (.iconst 5, 1) := by decide +kernel
theorem dX1_keep_19 : decode cX1_keep 19 = .ok (.if_icmp .ne 7, 3) := by decide +kernel
theorem dX1_keep_22 : decode cX1_keep 22 = .ok (.iconst 0, 1) := by decide +kernel
theorem dX1_keep_23 : decode cX1_keep 23 = .ok (.goto 9, 3) := by decide +kernel
theorem dX1_keep_26 : decode cX1_keep 26 = .ok (.aload_n 0, 1) := by decide +kernel
theorem dX1_keep_27 : decode cX1_keep 27 = .ok (.getfield 17, 3) := by decide +kernel
theorem dX1_keep_30 : decode cX1_keep 30 = .ok (.iconst 1, 1) := by decide +kernel
theorem dX1_keep_31 : decode cX1_keep 31 = .ok (.iadd, 1) := by decide +kernel
theorem dX1_keep_32 : decode cX1_keep 32 = .ok (.putfield 17, 3) := by decide +kernel
theorem dX1_keep_35 : decode cX1_keep 35 = .ok (.aload_n 0, 1) := by decide +kernel
theorem dX1_keep_36 : decode cX1_keep 36 = .ok (.aload_n 0, 1) := by decide +kernel
theorem dX1_keep_37 : decode cX1_keep 37 = .ok (.getfield 21, 3) := by decide +kernel
theorem dX1_keep_40 : decode cX1_keep 40 = .ok (.iconst 1, 1) := by decide +kernel
theorem dX1_keep_41 : decode cX1_keep 41 = .ok (.iadd, 1) := by decide +kernel
theorem dX1_keep_42 : decode cX1_keep 42 = .ok (.bipush 6, 2) := by decide +kernel
theorem dX1_keep_44 : decode cX1_keep 44 = .ok (.invokestatic 29, 3) := by decide +kernel
theorem dX1_keep_47 : decode cX1_keep 47 = .ok (.putfield 21, 3) := by decide +kernel
theorem dX1_keep_50 : decode cX1_keep 50 = .ok (.return_, 1) := by decide +kernel
theorem dX1_bringBack_0 : decode cX1_bringBack 0 = .ok (.aload_n 0, 1) := by decide +kernel
theorem dX1_bringBack_1 : decode cX1_bringBack 1 = .ok (.aload_n 0, 1) := by decide +kernel
theorem dX1_bringBack_2 : decode cX1_bringBack 2 = .ok (.getfield 17, 3) := by decide +kernel
theorem dX1_bringBack_5 : decode cX1_bringBack 5 = .ok (.ifCond .ne 7, 3) := by decide +kernel
theorem dX1_bringBack_8 : decode cX1_bringBack 8 = .ok (.iconst 5, 1) := by decide +kernel
theorem dX1_bringBack_9 : decode cX1_bringBack 9 = .ok (.goto 9, 3) := by decide +kernel
theorem dX1_bringBack_12 : decode cX1_bringBack 12 = .ok (.aload_n 0, 1) := by decide +kernel
theorem dX1_bringBack_13 : decode cX1_bringBack 13 = .ok (.getfield 17, 3) := by decide +kernel
theorem dX1_bringBack_16 : decode cX1_bringBack 16 = .ok (.iconst 1, 1) := by decide +kernel
theorem dX1_bringBack_17 : decode cX1_bringBack 17 = .ok (.isub, 1) := by decide +kernel
theorem dX1_bringBack_18 : decode cX1_bringBack 18 = .ok (.putfield 17, 3) := by decide +kernel
theorem dX1_bringBack_21 : decode cX1_bringBack 21 = .ok (.aload_n 0, 1) := by decide +kernel
theorem dX1_bringBack_22 : decode cX1_bringBack 22 = .ok (.dup, 1) := by decide +kernel
theorem dX1_bringBack_23 : decode cX1_bringBack 23 = .ok (.getfield 21, 3) := by decide +kernel
theorem dX1_bringBack_26 : decode cX1_bringBack 26 = .ok (.iconst 1, 1) := by decide +kernel
theorem dX1_bringBack_27 : decode cX1_bringBack 27 = .ok (.isub, 1) := by decide +kernel
theorem dX1_bringBack_28 : decode cX1_bringBack 28 = .ok (.putfield 21, 3) := by decide +kernel
theorem dX1_bringBack_31 : decode cX1_bringBack 31 = .ok (.aload_n 1, 1) := by decide +kernel
theorem dX1_bringBack_32 : decode cX1_bringBack 32 = .ok (.aload_n 0, 1) := by decide +kernel
theorem dX1_bringBack_33 : decode cX1_bringBack 33 = .ok (.getfield 11, 3) := by decide +kernel
theorem dX1_bringBack_36 : decode cX1_bringBack 36 = .ok (.aload_n 0, 1) := by decide +kernel
theorem dX1_bringBack_37 : decode cX1_bringBack 37 = .ok (.getfield 17, 3) := by decide +kernel
theorem dX1_bringBack_40 : decode cX1_bringBack 40 = .ok (.aaload, 1) := by decide +kernel
theorem dX1_bringBack_41 : decode cX1_bringBack 41 = .ok (.invokevirtual 25, 3) := by decide +kernel
theorem dX1_bringBack_44 : decode cX1_bringBack 44 = .ok (.return_, 1) := by decide +kernel
theorem dX2_init_0 : decode cX2_init 0 = .ok (.aload_n 0, 1) := by decide +kernel
theorem dX2_init_1 : decode cX2_init 1 = .ok (.invokespecial 3, 3) := by decide +kernel
theorem dX2_init_4 : decode cX2_init 4 = .ok (.aload_n 0, 1) := by decide +kernel
theorem dX2_init_5 : decode cX2_init 5 = .ok (.bipush 7, 2) := by decide +kernel
theorem dX2_init_7 : decode cX2_init 7 = .ok (.newarray .int, 2) := by decide +kernel
theorem dX2_init_9 : decode cX2_init 9 = .ok (.putfield 9, 3) := by decide +kernel
theorem dX2_init_12 : decode cX2_init 12 = .ok (.aload_n 0, 1) := by decide +kernel
theorem dX2_init_13 : decode cX2_init 13 = .ok (.bipush 7, 2) := by decide +kernel
theorem dX2_init_15 : decode cX2_init 15 = .ok (.newarray .int, 2) := by decide +kernel
theorem dX2_init_17 : decode cX2_init 17 = .ok (.putfield 15, 3) := by decide +kernel
theorem dX2_init_20 : decode cX2_init 20 = .ok (.aload_n 0, 1) := by decide +kernel
theorem dX2_init_21 : decode cX2_init 21 = .ok (.bipush 7, 2) := by decide +kernel
theorem dX2_init_23 : decode cX2_init 23 = .ok (.newarray .int, 2) := by decide +kernel
theorem dX2_init_25 : decode cX2_init 25 = .ok (.putfield 18, 3) := by decide +kernel
theorem dX2_init_28 : decode cX2_init 28 = .ok (.aload_n 0, 1) := by decide +kernel
theorem dX2_init_29 : decode cX2_init 29 = .ok (.bipush 7, 2) := by decide +kernel
theorem dX2_init_31 : decode cX2_init 31 = .ok (.newarray .int, 2) := by decide +kernel
theorem dX2_init_33 : decode cX2_init 33 = .ok (.putfield 21, 3) := by decide +kernel
theorem dX2_init_36 : decode cX2_init 36 = .ok (.return_, 1) := by decide +kernel
theorem dX2_copy_0 : decode cX2_copy 0 = .ok (.aload_n 1, 1) := by decide +kernel
theorem dX2_copy_1 : decode cX2_copy 1 = .ok (.getfield 9, 3) := by decide +kernel
theorem dX2_copy_4 : decode cX2_copy 4 = .ok (.iconst 0, 1) := by decide +kernel
theorem dX2_copy_5 : decode cX2_copy 5 = .ok (.aload_n 0, 1) := by decide +kernel
theorem dX2_copy_6 : decode cX2_copy 6 = .ok (.getfield 9, 3) := by decide +kernel
theorem dX2_copy_9 : decode cX2_copy 9 = .ok (.iconst 0, 1) := by decide +kernel
theorem dX2_copy_10 : decode cX2_copy 10 = .ok (.bipush 7, 2) := by decide +kernel
theorem dX2_copy_12 : decode cX2_copy 12 = .ok (.invokestatic 24, 3) := by decide +kernel
theorem dX2_copy_15 : decode cX2_copy 15 = .ok (.aload_n 1, 1) := by decide +kernel
theorem dX2_copy_16 : decode cX2_copy 16 = .ok (.getfield 15, 3) := by decide +kernel
theorem dX2_copy_19 : decode cX2_copy 19 = .ok (.iconst 0, 1) := by decide +kernel
theorem dX2_copy_20 : decode cX2_copy 20 = .ok (.aload_n 0, 1) := by decide +kernel
theorem dX2_copy_21 : decode cX2_copy 21 = .ok (.getfield 15, 3) := by decide +kernel
theorem dX2_copy_24 : decode cX2_copy 24 = .ok (.iconst 0, 1) := by decide +kernel
theorem dX2_copy_25 : decode cX2_copy 25 = .ok (.bipush 7, 2) := by decide +kernel
theorem dX2_copy_27 : decode cX2_copy 27 = .ok (.invokestatic 24, 3) := by decide +kernel
theorem dX2_copy_30 : decode cX2_copy 30 = .ok (.aload_n 1, 1) := by decide +kernel
theorem dX2_copy_31 : decode cX2_copy 31 = .ok (.getfield 18, 3) := by decide +kernel
theorem dX2_copy_34 : decode cX2_copy 34 = .ok (.iconst 0, 1) := by decide +kernel
theorem dX2_copy_35 : decode cX2_copy 35 = .ok (.aload_n 0, 1) := by decide +kernel
theorem dX2_copy_36 : decode cX2_copy 36 = .ok (.getfield 18, 3) := by decide +kernel
theorem dX2_copy_39 : decode cX2_copy 39 = .ok (.iconst 0, 1) := by decide +kernel
theorem dX2_copy_40 : decode cX2_copy 40 = .ok (.bipush 7, 2) := by decide +kernel
theorem dX2_copy_42 : decode cX2_copy 42 = .ok (.invokestatic 24, 3) := by decide +kernel
theorem dX2_copy_45 : decode cX2_copy 45 = .ok (.aload_n 1, 1) := by decide +kernel
theorem dX2_copy_46 : decode cX2_copy 46 = .ok (.getfield 21, 3) := by decide +kernel
theorem dX2_copy_49 : decode cX2_copy 49 = .ok (.iconst 0, 1) := by decide +kernel
theorem dX2_copy_50 : decode cX2_copy 50 = .ok (.aload_n 0, 1) := by decide +kernel
theorem dX2_copy_51 : decode cX2_copy 51 = .ok (.getfield 21, 3) := by decide +kernel
theorem dX2_copy_54 : decode cX2_copy 54 = .ok (.iconst 0, 1) := by decide +kernel
theorem dX2_copy_55 : decode cX2_copy 55 = .ok (.bipush 7, 2) := by decide +kernel
theorem dX2_copy_57 : decode cX2_copy 57 = .ok (.invokestatic 24, 3) := by decide +kernel
theorem dX2_copy_60 : decode cX2_copy 60 = .ok (.return_, 1) := by decide +kernel
theorem dX2_comesIn_0 : decode cX2_comesIn 0 = .ok (.iload_n 2, 1) := by decide +kernel
theorem dX2_comesIn_1 : decode cX2_comesIn 1 = .ok (.aload_n 0, 1) := by decide +kernel
theorem dX2_comesIn_2 : decode cX2_comesIn 2 = .ok (.getfield 9, 3) := by decide +kernel
theorem dX2_comesIn_5 : decode cX2_comesIn 5 = .ok (.iload_n 1, 1) := by decide +kernel
theorem dX2_comesIn_6 : decode cX2_comesIn 6 = .ok (.iaload, 1) := by decide +kernel
theorem dX2_comesIn_7 : decode cX2_comesIn 7 = .ok (.iconst 1, 1) := by decide +kernel
theorem dX2_comesIn_8 : decode cX2_comesIn 8 = .ok (.isub, 1) := by decide +kernel
theorem dX2_comesIn_9 : decode cX2_comesIn 9 = .ok (.if_icmp .eq 13, 3) := by decide +kernel
theorem dX2_comesIn_12 : decode cX2_comesIn 12 = .ok (.iload_n 2, 1) := by decide +kernel
theorem dX2_comesIn_13 : decode cX2_comesIn 13 = .ok (.aload_n 0, 1) := by decide +kernel
theorem dX2_comesIn_14 : decode cX2_comesIn 14 = .ok (.getfield 9, 3) := by decide +kernel
theorem dX2_comesIn_17 : decode cX2_comesIn 17 = .ok (.iload_n 1, 1) := by decide +kernel
theorem dX2_comesIn_18 : decode cX2_comesIn 18 = .ok (.iaload, 1) := by decide +kernel
theorem dX2_comesIn_19 : decode cX2_comesIn 19 = .ok (.if_icmp .ne 7, 3) := by decide +kernel
theorem dX2_comesIn_22 : decode cX2_comesIn 22 = .ok (.iconst 1, 1) := by decide +kernel
theorem dX2_comesIn_23 : decode cX2_comesIn 23 = .ok (.goto 4, 3) := by decide +kernel
theorem dX2_comesIn_26 : decode cX2_comesIn 26 = .ok (.iconst 0, 1) := by decide +kernel
theorem dX2_comesIn_27 : decode cX2_comesIn 27 = .ok (.ireturn, 1) := by decide +kernel
theorem dX2_goesOut_0 : decode cX2_goesOut 0 = .ok (.iload_n 2, 1) := by decide +kernel
theorem dX2_goesOut_1 : decode cX2_goesOut 1 = .ok (.aload_n 0, 1) := by decide +kernel
theorem dX2_goesOut_2 : decode cX2_goesOut 2 = .ok (.getfield 15, 3) := by decide +kernel
theorem dX2_goesOut_5 : decode cX2_goesOut 5 = .ok (.iload_n 1, 1) := by decide +kernel
theorem dX2_goesOut_6 : decode cX2_goesOut 6 = .ok (.iaload, 1) := by decide +kernel
theorem dX2_goesOut_7 : decode cX2_goesOut 7 = .ok (.if_icmp .eq 15, 3) := by decide +kernel
theorem dX2_goesOut_10 : decode cX2_goesOut 10 = .ok (.iload_n 2, 1) := by decide +kernel
theorem dX2_goesOut_11 : decode cX2_goesOut 11 = .ok (.aload_n 0, 1) := by decide +kernel
theorem dX2_goesOut_12 : decode cX2_goesOut 12 = .ok (.getfield 15, 3) := by decide +kernel
theorem dX2_goesOut_15 : decode cX2_goesOut 15 = .ok (.iload_n 1, 1) := by decide +kernel
theorem dX2_goesOut_16 : decode cX2_goesOut 16 = .ok (.iaload, 1) := by decide +kernel
theorem dX2_goesOut_17 : decode cX2_goesOut 17 = .ok (.iconst 1, 1) := by decide +kernel
theorem dX2_goesOut_18 : decode cX2_goesOut 18 = .ok (.iadd, 1) := by decide +kernel
theorem dX2_goesOut_19 : decode cX2_goesOut 19 = .ok (.if_icmp .ne 7, 3) := by decide +kernel
theorem dX2_goesOut_22 : decode cX2_goesOut 22 = .ok (.iconst 1, 1) := by decide +kernel
theorem dX2_goesOut_23 : decode cX2_goesOut 23 = .ok (.goto 4, 3) := by decide +kernel
theorem dX2_goesOut_26 : decode cX2_goesOut 26 = .ok (.iconst 0, 1) := by decide +kernel
theorem dX2_goesOut_27 : decode cX2_goesOut 27 = .ok (.ireturn, 1) := by decide +kernel
theorem dX3_init_0 : decode cX3_init 0 = .ok (.aload_n 0, 1) := by decide +kernel
theorem dX3_init_1 : decode cX3_init 1 = .ok (.invokespecial 3, 3) := by decide +kernel
theorem dX3_init_4 : decode cX3_init 4 = .ok (.aload_n 0, 1) := by decide +kernel
theorem dX3_init_5 : decode cX3_init 5 = .ok (.bipush 6, 2) := by decide +kernel
theorem dX3_init_7 : decode cX3_init 7 = .ok (.newarray .int, 2) := by decide +kernel
theorem dX3_init_9 : decode cX3_init 9 = .ok (.putfield 11, 3) := by decide +kernel
theorem dX3_init_12 : decode cX3_init 12 = .ok (.aload_n 0, 1) := by decide +kernel
theorem dX3_init_13 : decode cX3_init 13 = .ok (.iconst 0, 1) := by decide +kernel
theorem dX3_init_14 : decode cX3_init 14 = .ok (.putfield 15, 3) := by decide +kernel
theorem dX3_init_17 : decode cX3_init 17 = .ok (.aload_n 0, 1) := by decide +kernel
theorem dX3_init_18 : decode cX3_init 18 = .ok (.aload_n 1, 1) := by decide +kernel
theorem dX3_init_19 : decode cX3_init 19 = .ok (.putfield 19, 3) := by decide +kernel
theorem dX3_init_22 : decode cX3_init 22 = .ok (.aload_n 0, 1) := by decide +kernel
theorem dX3_init_23 : decode cX3_init 23 = .ok (.aload_n 2, 1) := by decide +kernel
theorem dX3_init_24 : decode cX3_init 24 = .ok (.putfield 23, 3) := by decide +kernel
theorem dX3_init_27 : decode cX3_init 27 = .ok (.aload_n 0, 1) := by decide +kernel
theorem dX3_init_28 : decode cX3_init 28 = .ok (.aload_n 3, 1) := by decide +kernel
theorem dX3_init_29 : decode cX3_init 29 = .ok (.putfield 27, 3) := by decide +kernel
theorem dX3_init_32 : decode cX3_init 32 = .ok (.return_, 1) := by decide +kernel
theorem dX3_firstFault_0 : decode cX3_firstFault 0 = .ok (.aload_n 0, 1) := by decide +kernel
theorem dX3_firstFault_1 : decode cX3_firstFault 1 = .ok (.getfield 23, 3) := by decide +kernel
theorem dX3_firstFault_4 : decode cX3_firstFault 4 = .ok (.invokevirtual 31, 3) := by decide +kernel
theorem dX3_firstFault_7 : decode cX3_firstFault 7 = .ok (.iconst 0, 1) := by decide +kernel
theorem dX3_firstFault_8 : decode cX3_firstFault 8 = .ok (.istore_n 1, 1) := by decide +kernel
theorem dX3_firstFault_9 : decode cX3_firstFault 9 = .ok (.iconst 0, 1) := by decide +kernel
theorem dX3_firstFault_10 : decode cX3_firstFault 10 = .ok (.istore_n 2, 1) := by decide +kernel
theorem dX3_firstFault_11 : decode cX3_firstFault 11 = .ok (.iload_n 2, 1) := by decide +kernel
theorem dX3_firstFault_12 : decode cX3_firstFault 12 = .ok (.sipush 200, 3) := by decide +kernel
theorem dX3_firstFault_15 : decode cX3_firstFault 15 = .ok (.if_icmp .ge 66, 3) := by decide +kernel
theorem dX3_firstFault_18 : decode cX3_firstFault 18 = .ok (.iload_n 1, 1) := by decide +kernel
theorem dX3_firstFault_19 : decode cX3_firstFault 19 = .ok (.aload_n 0, 1) := by decide +kernel
theorem dX3_firstFault_20 : decode cX3_firstFault 20 = .ok (.getfield 19, 3) := by decide +kernel
theorem dX3_firstFault_23 : decode cX3_firstFault 23 = .ok (.getfield 36, 3) := by decide +kernel
theorem dX3_firstFault_26 : decode cX3_firstFault 26 = .ok (.if_icmp .ge 55, 3) := by decide +kernel
theorem dX3_firstFault_29 : decode cX3_firstFault 29 = .ok (.aload_n 0, 1) := by decide +kernel
theorem dX3_firstFault_30 : decode cX3_firstFault 30 = .ok (.iload_n 1, 1) := by decide +kernel
theorem dX3_firstFault_31 : decode cX3_firstFault 31 = .ok (.invokevirtual 41, 3) := by decide +kernel
theorem dX3_firstFault_34 : decode cX3_firstFault 34 = .ok (.istore_n 3, 1) := by decide +kernel
theorem dX3_firstFault_35 : decode cX3_firstFault 35 = .ok (.iload_n 3, 1) := by decide +kernel
theorem dX3_firstFault_36 : decode cX3_firstFault 36 = .ok (.bipush (-4), 2) := by decide +kernel
theorem dX3_firstFault_38 : decode cX3_firstFault 38 = .ok (.if_icmp .ne 8, 3) := by decide +kernel
theorem dX3_firstFault_41 : decode cX3_firstFault 41 = .ok (.bipush (-4), 2) := by decide +kernel
theorem dX3_firstFault_43 : decode cX3_firstFault 43 = .ok (.goto 10, 3) := by decide +kernel
theorem dX3_firstFault_46 : decode cX3_firstFault 46 = .ok (.aload_n 0, 1) := by decide +kernel
theorem dX3_firstFault_47 : decode cX3_firstFault 47 = .ok (.iload_n 1, 1) := by decide +kernel
theorem dX3_firstFault_48 : decode cX3_firstFault 48 = .ok (.iconst 5, 1) := by decide +kernel
theorem dX3_firstFault_49 : decode cX3_firstFault 49 = .ok (.iadd, 1) := by decide +kernel
theorem dX3_firstFault_50 : decode cX3_firstFault 50 = .ok (.invokevirtual 45, 3) := by decide +kernel
theorem dX3_firstFault_53 : decode cX3_firstFault 53 = .ok (.istore 4, 2) := by decide +kernel
theorem dX3_firstFault_55 : decode cX3_firstFault 55 = .ok (.iload 4, 2) := by decide +kernel
theorem dX3_firstFault_57 : decode cX3_firstFault 57 = .ok (.bipush (-4), 2) := by decide +kernel
theorem dX3_firstFault_59 : decode cX3_firstFault 59 = .ok (.if_icmp .eq 11, 3) := by decide +kernel
theorem dX3_firstFault_62 : decode cX3_firstFault 62 = .ok (.aload_n 0, 1) := by decide +kernel
theorem dX3_firstFault_63 : decode cX3_firstFault 63 = .ok (.iload_n 3, 1) := by decide +kernel
theorem dX3_firstFault_64 : decode cX3_firstFault 64 = .ok (.invokevirtual 48, 3) := by decide +kernel
theorem dX3_firstFault_67 : decode cX3_firstFault 67 = .ok (.ifCond .ne 5, 3) := by decide +kernel
theorem dX3_firstFault_70 : decode cX3_firstFault 70 = .ok (.iload_n 1, 1) := by decide +kernel
theorem dX3_firstFault_71 : decode cX3_firstFault 71 = .ok (.ireturn, 1) := by decide +kernel
theorem dX3_firstFault_72 : decode cX3_firstFault 72 = .ok (.iload 4, 2) := by decide +kernel
theorem dX3_firstFault_74 : decode cX3_firstFault 74 = .ok (.istore_n 1, 1) := by decide +kernel
theorem dX3_firstFault_75 : decode cX3_firstFault 75 = .ok (.iinc 2 1, 3) := by decide +kernel
theorem dX3_firstFault_78 : decode cX3_firstFault 78 = .ok (.goto (-67), 3) := by decide +kernel
theorem dX3_firstFault_81 : decode cX3_firstFault 81 = .ok (.bipush (-4), 2) := by decide +kernel
theorem dX3_firstFault_83 : decode cX3_firstFault 83 = .ok (.ireturn, 1) := by decide +kernel
theorem dX3_wordAt_0 : decode cX3_wordAt 0 = .ok (.iconst 0, 1) := by decide +kernel
theorem dX3_wordAt_1 : decode cX3_wordAt 1 = .ok (.istore_n 2, 1) := by decide +kernel
theorem dX3_wordAt_2 : decode cX3_wordAt 2 = .ok (.iload_n 2, 1) := by decide +kernel
theorem dX3_wordAt_3 : decode cX3_wordAt 3 = .ok (.iconst 5, 1) := by decide +kernel
theorem dX3_wordAt_4 : decode cX3_wordAt 4 = .ok (.if_icmp .ge 61, 3) := by decide +kernel
theorem dX3_wordAt_7 : decode cX3_wordAt 7 = .ok (.iconst 0, 1) := by decide +kernel
theorem dX3_wordAt_8 : decode cX3_wordAt 8 = .ok (.istore_n 3, 1) := by decide +kernel
theorem dX3_wordAt_9 : decode cX3_wordAt 9 = .ok (.iconst 0, 1) := by decide +kernel
theorem dX3_wordAt_10 : decode cX3_wordAt 10 = .ok (.istore 4, 2) := by decide +kernel
theorem dX3_wordAt_12 : decode cX3_wordAt 12 = .ok (.iload 4, 2) := by decide +kernel
theorem dX3_wordAt_14 : decode cX3_wordAt 14 = .ok (.iconst 5, 1) := by decide +kernel
theorem dX3_wordAt_15 : decode cX3_wordAt 15 = .ok (.if_icmp .ge 37, 3) := by decide +kernel
theorem dX3_wordAt_18 : decode cX3_wordAt 18 = .ok (.aload_n 0, 1) := by decide +kernel
theorem dX3_wordAt_19 : decode cX3_wordAt 19 = .ok (.getfield 19, 3) := by decide +kernel
theorem dX3_wordAt_22 : decode cX3_wordAt 22 = .ok (.iload_n 1, 1) := by decide +kernel
theorem dX3_wordAt_23 : decode cX3_wordAt 23 = .ok (.iload 4, 2) := by decide +kernel
theorem dX3_wordAt_25 : decode cX3_wordAt 25 = .ok (.iadd, 1) := by decide +kernel
theorem dX3_wordAt_26 : decode cX3_wordAt 26 = .ok (.invokevirtual 52, 3) := by decide +kernel
theorem dX3_wordAt_29 : decode cX3_wordAt 29 = .ok (.ldc 55, 2) := by decide +kernel
theorem dX3_wordAt_31 : decode cX3_wordAt 31 = .ok (.iload_n 2, 1) := by decide +kernel
theorem dX3_wordAt_32 : decode cX3_wordAt 32 = .ok (.iconst 5, 1) := by decide +kernel
theorem dX3_wordAt_33 : decode cX3_wordAt 33 = .ok (.imul, 1) := by decide +kernel
theorem dX3_wordAt_34 : decode cX3_wordAt 34 = .ok (.iload 4, 2) := by decide +kernel
theorem dX3_wordAt_36 : decode cX3_wordAt 36 = .ok (.iadd, 1) := by decide +kernel
theorem dX3_wordAt_37 : decode cX3_wordAt 37 = .ok (.invokevirtual 57, 3) := by decide +kernel
theorem dX3_wordAt_40 : decode cX3_wordAt 40 = .ok (.if_icmp .ne 6, 3) := by decide +kernel
theorem dX3_wordAt_43 : decode cX3_wordAt 43 = .ok (.iinc 3 1, 3) := by decide +kernel
theorem dX3_wordAt_46 : decode cX3_wordAt 46 = .ok (.iinc 4 1, 3) := by decide +kernel
theorem dX3_wordAt_49 : decode cX3_wordAt 49 = .ok (.goto (-37), 3) := by decide +kernel
theorem dX3_wordAt_52 : decode cX3_wordAt 52 = .ok (.iload_n 3, 1) := by decide +kernel
theorem dX3_wordAt_53 : decode cX3_wordAt 53 = .ok (.iconst 5, 1) := by decide +kernel
theorem dX3_wordAt_54 : decode cX3_wordAt 54 = .ok (.if_icmp .ne 5, 3) := by decide +kernel
theorem dX3_wordAt_57 : decode cX3_wordAt 57 = .ok (.iload_n 2, 1) := by decide +kernel
theorem dX3_wordAt_58 : decode cX3_wordAt 58 = .ok (.ireturn, 1) := by decide +kernel
theorem dX3_wordAt_59 : decode cX3_wordAt 59 = .ok (.iinc 2 1, 3) := by decide +kernel
theorem dX3_wordAt_62 : decode cX3_wordAt 62 = .ok (.goto (-60), 3) := by decide +kernel
theorem dX3_wordAt_65 : decode cX3_wordAt 65 = .ok (.bipush (-4), 2) := by decide +kernel
theorem dX3_wordAt_67 : decode cX3_wordAt 67 = .ok (.ireturn, 1) := by decide +kernel
theorem dX3_readNumbers_0 : decode cX3_readNumbers 0 = .ok (.iload_n 1, 1) := by decide +kernel
theorem dX3_readNumbers_1 : decode cX3_readNumbers 1 = .ok (.istore_n 2, 1) := by decide +kernel
theorem dX3_readNumbers_2 : decode cX3_readNumbers 2 = .ok (.iconst 0, 1) := by decide +kernel
theorem dX3_readNumbers_3 : decode cX3_readNumbers 3 = .ok (.istore_n 3, 1) := by decide +kernel
theorem dX3_readNumbers_4 : decode cX3_readNumbers 4 = .ok (.iload_n 3, 1) := by decide +kernel
theorem dX3_readNumbers_5 : decode cX3_readNumbers 5 = .ok (.bipush 6, 2) := by decide +kernel
theorem dX3_readNumbers_7 : decode cX3_readNumbers 7 = .ok (.if_icmp .ge 113, 3) := by decide +kernel
theorem dX3_readNumbers_10 : decode cX3_readNumbers 10 = .ok (.aload_n 0, 1) := by decide +kernel
theorem dX3_readNumbers_11 : decode cX3_readNumbers 11 = .ok (.iload_n 2, 1) := by decide +kernel
theorem dX3_readNumbers_12 : decode cX3_readNumbers 12 = .ok (.invokevirtual 63, 3) := by decide +kernel
theorem dX3_readNumbers_15 : decode cX3_readNumbers 15 = .ok (.ifCond .ne 6, 3) := by decide +kernel
theorem dX3_readNumbers_18 : decode cX3_readNumbers 18 = .ok (.bipush (-4), 2) := by decide +kernel
theorem dX3_readNumbers_20 : decode cX3_readNumbers 20 = .ok (.ireturn, 1) := by decide +kernel
theorem dX3_readNumbers_21 : decode cX3_readNumbers 21 = .ok (.aload_n 0, 1) := by decide +kernel
theorem dX3_readNumbers_22 : decode cX3_readNumbers 22 = .ok (.getfield 19, 3) := by decide +kernel
theorem dX3_readNumbers_25 : decode cX3_readNumbers 25 = .ok (.iload_n 2, 1) := by decide +kernel
theorem dX3_readNumbers_26 : decode cX3_readNumbers 26 = .ok (.invokevirtual 52, 3) := by decide +kernel
theorem dX3_readNumbers_29 : decode cX3_readNumbers 29 = .ok (.bipush 48, 2) := by decide +kernel
theorem dX3_readNumbers_31 : decode cX3_readNumbers 31 = .ok (.isub, 1) := by decide +kernel
theorem dX3_readNumbers_32 : decode cX3_readNumbers 32 = .ok (.istore 4, 2) := by decide +kernel
theorem dX3_readNumbers_34 : decode cX3_readNumbers 34 = .ok (.iinc 2 1, 3) := by decide +kernel
theorem dX3_readNumbers_37 : decode cX3_readNumbers 37 = .ok (.aload_n 0, 1) := by decide +kernel
theorem dX3_readNumbers_38 : decode cX3_readNumbers 38 = .ok (.iload_n 2, 1) := by decide +kernel
theorem dX3_readNumbers_39 : decode cX3_readNumbers 39 = .ok (.invokevirtual 63, 3) := by decide +kernel
theorem dX3_readNumbers_42 : decode cX3_readNumbers 42 = .ok (.ifCond .eq 25, 3) := by decide +kernel
theorem dX3_readNumbers_45 : decode cX3_readNumbers 45 = .ok (.iload 4, 2) := by decide +kernel
theorem dX3_readNumbers_47 : decode cX3_readNumbers 47 = .ok (.bipush 10, 2) := by decide +kernel
theorem dX3_readNumbers_49 : decode cX3_readNumbers 49 = .ok (.imul, 1) := by decide +kernel
theorem dX3_readNumbers_50 : decode cX3_readNumbers 50 = .ok (.aload_n 0, 1) := by decide +kernel
theorem dX3_readNumbers_51 : decode cX3_readNumbers 51 = .ok (.getfield 19, 3) := by decide +kernel
theorem dX3_readNumbers_54 : decode cX3_readNumbers 54 = .ok (.iload_n 2, 1) := by decide +kernel
theorem dX3_readNumbers_55 : decode cX3_readNumbers 55 = .ok (.invokevirtual 52, 3) := by decide +kernel
theorem dX3_readNumbers_58 : decode cX3_readNumbers 58 = .ok (.iadd, 1) := by decide +kernel
theorem dX3_readNumbers_59 : decode cX3_readNumbers 59 = .ok (.bipush 48, 2) := by decide +kernel
theorem dX3_readNumbers_61 : decode cX3_readNumbers 61 = .ok (.isub, 1) := by decide +kernel
theorem dX3_readNumbers_62 : decode cX3_readNumbers 62 = .ok (.istore 4, 2) := by decide +kernel
theorem dX3_readNumbers_64 : decode cX3_readNumbers 64 = .ok (.iinc 2 1, 3) := by decide +kernel
theorem dX3_readNumbers_67 : decode cX3_readNumbers 67 = .ok (.aload_n 0, 1) := by decide +kernel
theorem dX3_readNumbers_68 : decode cX3_readNumbers 68 = .ok (.getfield 11, 3) := by decide +kernel
theorem dX3_readNumbers_71 : decode cX3_readNumbers 71 = .ok (.iload_n 3, 1) := by decide +kernel
theorem dX3_readNumbers_72 : decode cX3_readNumbers 72 = .ok (.iload 4, 2) := by decide +kernel
theorem dX3_readNumbers_74 : decode cX3_readNumbers 74 = .ok (.iastore, 1) := by decide +kernel
theorem dX3_readNumbers_75 : decode cX3_readNumbers 75 = .ok (.aload_n 0, 1) := by decide +kernel
theorem dX3_readNumbers_76 : decode cX3_readNumbers 76 = .ok (.iload_n 3, 1) := by decide +kernel
theorem dX3_readNumbers_77 : decode cX3_readNumbers 77 = .ok (.iconst 1, 1) := by decide +kernel
theorem dX3_readNumbers_78 : decode cX3_readNumbers 78 = .ok (.iadd, 1) := by decide +kernel
theorem dX3_readNumbers_79 : decode cX3_readNumbers 79 = .ok (.putfield 15, 3) := by decide +kernel
theorem dX3_readNumbers_82 : decode cX3_readNumbers 82 = .ok (.aload_n 0, 1) := by decide +kernel
theorem dX3_readNumbers_83 : decode cX3_readNumbers 83 = .ok (.getfield 19, 3) := by decide +kernel
theorem dX3_readNumbers_86 : decode cX3_readNumbers 86 = .ok (.iload_n 2, 1) := by decide +kernel
theorem dX3_readNumbers_87 : decode cX3_readNumbers 87 = .ok (.invokevirtual 52, 3) := by decide +kernel
theorem dX3_readNumbers_90 : decode cX3_readNumbers 90 = .ok (.istore 5, 2) := by decide +kernel
theorem dX3_readNumbers_92 : decode cX3_readNumbers 92 = .ok (.iinc 2 1, 3) := by decide +kernel
theorem dX3_readNumbers_95 : decode cX3_readNumbers 95 = .ok (.iload 5, 2) := by decide +kernel
theorem dX3_readNumbers_97 : decode cX3_readNumbers 97 = .ok (.bipush 59, 2) := by decide +kernel
theorem dX3_readNumbers_99 : decode cX3_readNumbers 99 = .ok (.if_icmp .ne 5, 3) := by decide +kernel
theorem dX3_readNumbers_102 : decode cX3_readNumbers 102 = .ok (.iload_n 2, 1) := by decide +kernel
theorem dX3_readNumbers_103 : decode cX3_readNumbers 103 = .ok (.ireturn, 1) := by decide +kernel
theorem dX3_readNumbers_104 : decode cX3_readNumbers 104 = .ok (.iload 5, 2) := by decide +kernel
theorem dX3_readNumbers_106 : decode cX3_readNumbers 106 = .ok (.bipush 44, 2) := by decide +kernel
theorem dX3_readNumbers_108 : decode cX3_readNumbers 108 = .ok (.if_icmp .eq 6, 3) := by decide +kernel
theorem dX3_readNumbers_111 : decode cX3_readNumbers 111 = .ok (.bipush (-4), 2) := by decide +kernel
theorem dX3_readNumbers_113 : decode cX3_readNumbers 113 = .ok (.ireturn, 1) := by decide +kernel
theorem dX3_readNumbers_114 : decode cX3_readNumbers 114 = .ok (.iinc 3 1, 3) := by decide +kernel
theorem dX3_readNumbers_117 : decode cX3_readNumbers 117 = .ok (.goto (-113), 3) := by decide +kernel
theorem dX3_readNumbers_120 : decode cX3_readNumbers 120 = .ok (.bipush (-4), 2) := by decide +kernel
theorem dX3_readNumbers_122 : decode cX3_readNumbers 122 = .ok (.ireturn, 1) := by decide +kernel
theorem dX3_isFigure_0 : decode cX3_isFigure 0 = .ok (.aload_n 0, 1) := by decide +kernel
theorem dX3_isFigure_1 : decode cX3_isFigure 1 = .ok (.getfield 19, 3) := by decide +kernel
theorem dX3_isFigure_4 : decode cX3_isFigure 4 = .ok (.iload_n 1, 1) := by decide +kernel
theorem dX3_isFigure_5 : decode cX3_isFigure 5 = .ok (.invokevirtual 52, 3) := by decide +kernel
theorem dX3_isFigure_8 : decode cX3_isFigure 8 = .ok (.istore_n 2, 1) := by decide +kernel
theorem dX3_isFigure_9 : decode cX3_isFigure 9 = .ok (.iload_n 2, 1) := by decide +kernel
theorem dX3_isFigure_10 : decode cX3_isFigure 10 = .ok (.bipush 48, 2) := by decide +kernel
theorem dX3_isFigure_12 : decode cX3_isFigure 12 = .ok (.if_icmp .lt 13, 3) := by decide +kernel
theorem dX3_isFigure_15 : decode cX3_isFigure 15 = .ok (.iload_n 2, 1) := by decide +kernel
theorem dX3_isFigure_16 : decode cX3_isFigure 16 = .ok (.bipush 57, 2) := by decide +kernel
theorem dX3_isFigure_18 : decode cX3_isFigure 18 = .ok (.if_icmp .gt 7, 3) := by decide +kernel
theorem dX3_isFigure_21 : decode cX3_isFigure 21 = .ok (.iconst 1, 1) := by decide +kernel
theorem dX3_isFigure_22 : decode cX3_isFigure 22 = .ok (.goto 4, 3) := by decide +kernel
theorem dX3_isFigure_25 : decode cX3_isFigure 25 = .ok (.iconst 0, 1) := by decide +kernel
theorem dX3_isFigure_26 : decode cX3_isFigure 26 = .ok (.ireturn, 1) := by decide +kernel
theorem dX3_isTold_0 : decode cX3_isTold 0 = .ok (.iload_n 1, 1) := by decide +kernel
theorem dX3_isTold_1 : decode cX3_isTold 1 = .ok (.ifCond .ne 8, 3) := by decide +kernel
theorem dX3_isTold_4 : decode cX3_isTold 4 = .ok (.aload_n 0, 1) := by decide +kernel
theorem dX3_isTold_5 : decode cX3_isTold 5 = .ok (.invokevirtual 66, 3) := by decide +kernel
theorem dX3_isTold_8 : decode cX3_isTold 8 = .ok (.ireturn, 1) := by decide +kernel
theorem dX3_isTold_9 : decode cX3_isTold 9 = .ok (.aload_n 0, 1) := by decide +kernel
theorem dX3_isTold_10 : decode cX3_isTold 10 = .ok (.getfield 23, 3) := by decide +kernel
theorem dX3_isTold_13 : decode cX3_isTold 13 = .ok (.getfield 70, 3) := by decide +kernel
theorem dX3_isTold_16 : decode cX3_isTold 16 = .ok (.ifCond .ne 5, 3) := by decide +kernel
theorem dX3_isTold_19 : decode cX3_isTold 19 = .ok (.iconst 0, 1) := by decide +kernel
theorem dX3_isTold_20 : decode cX3_isTold 20 = .ok (.ireturn, 1) := by decide +kernel
theorem dX3_isTold_21 : decode cX3_isTold 21 = .ok (.iload_n 1, 1) := by decide +kernel
theorem dX3_isTold_22 : decode cX3_isTold 22 = .ok (.tableswitch 50 1 4 #[30, 35, 40, 45], 30) := by decide +kernel
theorem dX3_isTold_52 : decode cX3_isTold 52 = .ok (.aload_n 0, 1) := by decide +kernel
theorem dX3_isTold_53 : decode cX3_isTold 53 = .ok (.invokevirtual 73, 3) := by decide +kernel
theorem dX3_isTold_56 : decode cX3_isTold 56 = .ok (.ireturn, 1) := by decide +kernel
theorem dX3_isTold_57 : decode cX3_isTold 57 = .ok (.aload_n 0, 1) := by decide +kernel
theorem dX3_isTold_58 : decode cX3_isTold 58 = .ok (.invokevirtual 76, 3) := by decide +kernel
theorem dX3_isTold_61 : decode cX3_isTold 61 = .ok (.ireturn, 1) := by decide +kernel
theorem dX3_isTold_62 : decode cX3_isTold 62 = .ok (.aload_n 0, 1) := by decide +kernel
theorem dX3_isTold_63 : decode cX3_isTold 63 = .ok (.invokevirtual 79, 3) := by decide +kernel
theorem dX3_isTold_66 : decode cX3_isTold 66 = .ok (.ireturn, 1) := by decide +kernel
theorem dX3_isTold_67 : decode cX3_isTold 67 = .ok (.aload_n 0, 1) := by decide +kernel
theorem dX3_isTold_68 : decode cX3_isTold 68 = .ok (.invokevirtual 82, 3) := by decide +kernel
theorem dX3_isTold_71 : decode cX3_isTold 71 = .ok (.ireturn, 1) := by decide +kernel
theorem dX3_isTold_72 : decode cX3_isTold 72 = .ok (.iconst 0, 1) := by decide +kernel
theorem dX3_isTold_73 : decode cX3_isTold 73 = .ok (.ireturn, 1) := by decide +kernel
theorem dX3_tellYard_0 : decode cX3_tellYard 0 = .ok (.aload_n 0, 1) := by decide +kernel
theorem dX3_tellYard_1 : decode cX3_tellYard 1 = .ok (.getfield 15, 3) := by decide +kernel
theorem dX3_tellYard_4 : decode cX3_tellYard 4 = .ok (.iconst 2, 1) := by decide +kernel
theorem dX3_tellYard_5 : decode cX3_tellYard 5 = .ok (.if_icmp .ne 13, 3) := by decide +kernel
theorem dX3_tellYard_8 : decode cX3_tellYard 8 = .ok (.aload_n 0, 1) := by decide +kernel
theorem dX3_tellYard_9 : decode cX3_tellYard 9 = .ok (.getfield 23, 3) := by decide +kernel
theorem dX3_tellYard_12 : decode cX3_tellYard 12 = .ok (.getfield 70, 3) := by decide +kernel
theorem dX3_tellYard_15 : decode cX3_tellYard 15 = .ok (.ifCond .eq 5, 3) := by decide +kernel
theorem dX3_tellYard_18 : decode cX3_tellYard 18 = .ok (.iconst 0, 1) := by decide +kernel
theorem dX3_tellYard_19 : decode cX3_tellYard 19 = .ok (.ireturn, 1) := by decide +kernel
theorem dX3_tellYard_20 : decode cX3_tellYard 20 = .ok (.aload_n 0, 1) := by decide +kernel
theorem dX3_tellYard_21 : decode cX3_tellYard 21 = .ok (.getfield 11, 3) := by decide +kernel
theorem dX3_tellYard_24 : decode cX3_tellYard 24 = .ok (.iconst 0, 1) := by decide +kernel
theorem dX3_tellYard_25 : decode cX3_tellYard 25 = .ok (.iaload, 1) := by decide +kernel
theorem dX3_tellYard_26 : decode cX3_tellYard 26 = .ok (.istore_n 1, 1) := by decide +kernel
theorem dX3_tellYard_27 : decode cX3_tellYard 27 = .ok (.aload_n 0, 1) := by decide +kernel
theorem dX3_tellYard_28 : decode cX3_tellYard 28 = .ok (.getfield 11, 3) := by decide +kernel
theorem dX3_tellYard_31 : decode cX3_tellYard 31 = .ok (.iconst 1, 1) := by decide +kernel
theorem dX3_tellYard_32 : decode cX3_tellYard 32 = .ok (.iaload, 1) := by decide +kernel
theorem dX3_tellYard_33 : decode cX3_tellYard 33 = .ok (.istore_n 2, 1) := by decide +kernel
theorem dX3_tellYard_34 : decode cX3_tellYard 34 = .ok (.iload_n 1, 1) := by decide +kernel
theorem dX3_tellYard_35 : decode cX3_tellYard 35 = .ok (.iconst 1, 1) := by decide +kernel
theorem dX3_tellYard_36 : decode cX3_tellYard 36 = .ok (.if_icmp .lt 18, 3) := by decide +kernel
theorem dX3_tellYard_39 : decode cX3_tellYard 39 = .ok (.iload_n 1, 1) := by decide +kernel
theorem dX3_tellYard_40 : decode cX3_tellYard 40 = .ok (.iconst 3, 1) := by decide +kernel
theorem dX3_tellYard_41 : decode cX3_tellYard 41 = .ok (.if_icmp .gt 13, 3) := by decide +kernel
theorem dX3_tellYard_44 : decode cX3_tellYard 44 = .ok (.iload_n 2, 1) := by decide +kernel
theorem dX3_tellYard_45 : decode cX3_tellYard 45 = .ok (.iconst 1, 1) := by decide +kernel
theorem dX3_tellYard_46 : decode cX3_tellYard 46 = .ok (.if_icmp .lt 8, 3) := by decide +kernel
theorem dX3_tellYard_49 : decode cX3_tellYard 49 = .ok (.iload_n 2, 1) := by decide +kernel
theorem dX3_tellYard_50 : decode cX3_tellYard 50 = .ok (.iconst 4, 1) := by decide +kernel
theorem dX3_tellYard_51 : decode cX3_tellYard 51 = .ok (.if_icmp .le 5, 3) := by decide +kernel
theorem dX3_tellYard_54 : decode cX3_tellYard 54 = .ok (.iconst 0, 1) := by decide +kernel
theorem dX3_tellYard_55 : decode cX3_tellYard 55 = .ok (.ireturn, 1) := by decide +kernel
theorem dX3_tellYard_56 : decode cX3_tellYard 56 = .ok (.aload_n 0, 1) := by decide +kernel
theorem dX3_tellYard_57 : decode cX3_tellYard 57 = .ok (.getfield 23, 3) := by decide +kernel
theorem dX3_tellYard_60 : decode cX3_tellYard 60 = .ok (.iload_n 1, 1) := by decide +kernel
theorem dX3_tellYard_61 : decode cX3_tellYard 61 = .ok (.putfield 70, 3) := by decide +kernel
theorem dX3_tellYard_64 : decode cX3_tellYard 64 = .ok (.aload_n 0, 1) := by decide +kernel
theorem dX3_tellYard_65 : decode cX3_tellYard 65 = .ok (.getfield 23, 3) := by decide +kernel
theorem dX3_tellYard_68 : decode cX3_tellYard 68 = .ok (.iload_n 2, 1) := by decide +kernel
theorem dX3_tellYard_69 : decode cX3_tellYard 69 = .ok (.putfield 85, 3) := by decide +kernel
theorem dX3_tellYard_72 : decode cX3_tellYard 72 = .ok (.iconst 1, 1) := by decide +kernel
theorem dX3_tellYard_73 : decode cX3_tellYard 73 = .ok (.ireturn, 1) := by decide +kernel
theorem dX3_tellPath_0 : decode cX3_tellPath 0 = .ok (.aload_n 0, 1) := by decide +kernel
theorem dX3_tellPath_1 : decode cX3_tellPath 1 = .ok (.getfield 15, 3) := by decide +kernel
theorem dX3_tellPath_4 : decode cX3_tellPath 4 = .ok (.iconst 2, 1) := by decide +kernel
theorem dX3_tellPath_5 : decode cX3_tellPath 5 = .ok (.if_icmp .lt 35, 3) := by decide +kernel
theorem dX3_tellPath_8 : decode cX3_tellPath 8 = .ok (.aload_n 0, 1) := by decide +kernel
theorem dX3_tellPath_9 : decode cX3_tellPath 9 = .ok (.getfield 23, 3) := by decide +kernel
theorem dX3_tellPath_12 : decode cX3_tellPath 12 = .ok (.aload_n 0, 1) := by decide +kernel
theorem dX3_tellPath_13 : decode cX3_tellPath 13 = .ok (.getfield 11, 3) := by decide +kernel
theorem dX3_tellPath_16 : decode cX3_tellPath 16 = .ok (.iconst 0, 1) := by decide +kernel
theorem dX3_tellPath_17 : decode cX3_tellPath 17 = .ok (.iaload, 1) := by decide +kernel
theorem dX3_tellPath_18 : decode cX3_tellPath 18 = .ok (.invokevirtual 88, 3) := by decide +kernel
theorem dX3_tellPath_21 : decode cX3_tellPath 21 = .ok (.ifCond .eq 19, 3) := by decide +kernel
theorem dX3_tellPath_24 : decode cX3_tellPath 24 = .ok (.aload_n 0, 1) := by decide +kernel
theorem dX3_tellPath_25 : decode cX3_tellPath 25 = .ok (.getfield 23, 3) := by decide +kernel
theorem dX3_tellPath_28 : decode cX3_tellPath 28 = .ok (.aload_n 0, 1) := by decide +kernel
theorem dX3_tellPath_29 : decode cX3_tellPath 29 = .ok (.getfield 11, 3) := by decide +kernel
theorem dX3_tellPath_32 : decode cX3_tellPath 32 = .ok (.iconst 1, 1) := by decide +kernel
theorem dX3_tellPath_33 : decode cX3_tellPath 33 = .ok (.iaload, 1) := by decide +kernel
theorem dX3_tellPath_34 : decode cX3_tellPath 34 = .ok (.invokevirtual 91, 3) := by decide +kernel
theorem dX3_tellPath_37 : decode cX3_tellPath 37 = .ok (.ifCond .ne 5, 3) := by decide +kernel
theorem dX3_tellPath_40 : decode cX3_tellPath 40 = .ok (.iconst 0, 1) := by decide +kernel
theorem dX3_tellPath_41 : decode cX3_tellPath 41 = .ok (.ireturn, 1) := by decide +kernel
theorem dX3_tellPath_42 : decode cX3_tellPath 42 = .ok (.iconst 0, 1) := by decide +kernel
theorem dX3_tellPath_43 : decode cX3_tellPath 43 = .ok (.istore_n 1, 1) := by decide +kernel
theorem dX3_tellPath_44 : decode cX3_tellPath 44 = .ok (.iconst 2, 1) := by decide +kernel
theorem dX3_tellPath_45 : decode cX3_tellPath 45 = .ok (.istore_n 2, 1) := by decide +kernel
theorem dX3_tellPath_46 : decode cX3_tellPath 46 = .ok (.iload_n 2, 1) := by decide +kernel
theorem dX3_tellPath_47 : decode cX3_tellPath 47 = .ok (.aload_n 0, 1) := by decide +kernel
theorem dX3_tellPath_48 : decode cX3_tellPath 48 = .ok (.getfield 15, 3) := by decide +kernel
theorem dX3_tellPath_51 : decode cX3_tellPath 51 = .ok (.if_icmp .ge 33, 3) := by decide +kernel
theorem dX3_tellPath_54 : decode cX3_tellPath 54 = .ok (.aload_n 0, 1) := by decide +kernel
theorem dX3_tellPath_55 : decode cX3_tellPath 55 = .ok (.getfield 11, 3) := by decide +kernel
theorem dX3_tellPath_58 : decode cX3_tellPath 58 = .ok (.iload_n 2, 1) := by decide +kernel
theorem dX3_tellPath_59 : decode cX3_tellPath 59 = .ok (.iaload, 1) := by decide +kernel
theorem dX3_tellPath_60 : decode cX3_tellPath 60 = .ok (.bipush 12, 2) := by decide +kernel
theorem dX3_tellPath_62 : decode cX3_tellPath 62 = .ok (.if_icmp .lt 5, 3) := by decide +kernel
theorem dX3_tellPath_65 : decode cX3_tellPath 65 = .ok (.iconst 0, 1) := by decide +kernel
theorem dX3_tellPath_66 : decode cX3_tellPath 66 = .ok (.ireturn, 1) := by decide +kernel
theorem dX3_tellPath_67 : decode cX3_tellPath 67 = .ok (.iload_n 1, 1) := by decide +kernel
theorem dX3_tellPath_68 : decode cX3_tellPath 68 = .ok (.iconst 1, 1) := by decide +kernel
theorem dX3_tellPath_69 : decode cX3_tellPath 69 = .ok (.aload_n 0, 1) := by decide +kernel
theorem dX3_tellPath_70 : decode cX3_tellPath 70 = .ok (.getfield 11, 3) := by decide +kernel
theorem dX3_tellPath_73 : decode cX3_tellPath 73 = .ok (.iload_n 2, 1) := by decide +kernel
theorem dX3_tellPath_74 : decode cX3_tellPath 74 = .ok (.iaload, 1) := by decide +kernel
theorem dX3_tellPath_75 : decode cX3_tellPath 75 = .ok (.ishl, 1) := by decide +kernel
theorem dX3_tellPath_76 : decode cX3_tellPath 76 = .ok (.ior, 1) := by decide +kernel
theorem dX3_tellPath_77 : decode cX3_tellPath 77 = .ok (.istore_n 1, 1) := by decide +kernel
theorem dX3_tellPath_78 : decode cX3_tellPath 78 = .ok (.iinc 2 1, 3) := by decide +kernel
theorem dX3_tellPath_81 : decode cX3_tellPath 81 = .ok (.goto (-35), 3) := by decide +kernel
theorem dX3_tellPath_84 : decode cX3_tellPath 84 = .ok (.aload_n 0, 1) := by decide +kernel
theorem dX3_tellPath_85 : decode cX3_tellPath 85 = .ok (.getfield 11, 3) := by decide +kernel
theorem dX3_tellPath_88 : decode cX3_tellPath 88 = .ok (.iconst 0, 1) := by decide +kernel
theorem dX3_tellPath_89 : decode cX3_tellPath 89 = .ok (.iaload, 1) := by decide +kernel
theorem dX3_tellPath_90 : decode cX3_tellPath 90 = .ok (.iconst 4, 1) := by decide +kernel
theorem dX3_tellPath_91 : decode cX3_tellPath 91 = .ok (.imul, 1) := by decide +kernel
theorem dX3_tellPath_92 : decode cX3_tellPath 92 = .ok (.aload_n 0, 1) := by decide +kernel
theorem dX3_tellPath_93 : decode cX3_tellPath 93 = .ok (.getfield 11, 3) := by decide +kernel
theorem dX3_tellPath_96 : decode cX3_tellPath 96 = .ok (.iconst 1, 1) := by decide +kernel
theorem dX3_tellPath_97 : decode cX3_tellPath 97 = .ok (.iaload, 1) := by decide +kernel
theorem dX3_tellPath_98 : decode cX3_tellPath 98 = .ok (.iadd, 1) := by decide +kernel
theorem dX3_tellPath_99 : decode cX3_tellPath 99 = .ok (.istore_n 2, 1) := by decide +kernel
theorem dX3_tellPath_100 : decode cX3_tellPath 100 = .ok (.aload_n 0, 1) := by decide +kernel
theorem dX3_tellPath_101 : decode cX3_tellPath 101 = .ok (.getfield 23, 3) := by decide +kernel
theorem dX3_tellPath_104 : decode cX3_tellPath 104 = .ok (.getfield 94, 3) := by decide +kernel
theorem dX3_tellPath_107 : decode cX3_tellPath 107 = .ok (.iload_n 2, 1) := by decide +kernel
theorem dX3_tellPath_108 : decode cX3_tellPath 108 = .ok (.iaload, 1) := by decide +kernel
theorem dX3_tellPath_109 : decode cX3_tellPath 109 = .ok (.bipush (-4), 2) := by decide +kernel
theorem dX3_tellPath_111 : decode cX3_tellPath 111 = .ok (.if_icmp .eq 5, 3) := by decide +kernel
theorem dX3_tellPath_114 : decode cX3_tellPath 114 = .ok (.iconst 0, 1) := by decide +kernel
theorem dX3_tellPath_115 : decode cX3_tellPath 115 = .ok (.ireturn, 1) := by decide +kernel
theorem dX3_tellPath_116 : decode cX3_tellPath 116 = .ok (.aload_n 0, 1) := by decide +kernel
theorem dX3_tellPath_117 : decode cX3_tellPath 117 = .ok (.getfield 23, 3) := by decide +kernel
theorem dX3_tellPath_120 : decode cX3_tellPath 120 = .ok (.getfield 94, 3) := by decide +kernel
theorem dX3_tellPath_123 : decode cX3_tellPath 123 = .ok (.iload_n 2, 1) := by decide +kernel
theorem dX3_tellPath_124 : decode cX3_tellPath 124 = .ok (.iload_n 1, 1) := by decide +kernel
theorem dX3_tellPath_125 : decode cX3_tellPath 125 = .ok (.iastore, 1) := by decide +kernel
theorem dX3_tellPath_126 : decode cX3_tellPath 126 = .ok (.iconst 1, 1) := by decide +kernel
theorem dX3_tellPath_127 : decode cX3_tellPath 127 = .ok (.ireturn, 1) := by decide +kernel
theorem dX3_tellTrain_0 : decode cX3_tellTrain 0 = .ok (.aload_n 0, 1) := by decide +kernel
theorem dX3_tellTrain_1 : decode cX3_tellTrain 1 = .ok (.getfield 23, 3) := by decide +kernel
theorem dX3_tellTrain_4 : decode cX3_tellTrain 4 = .ok (.getfield 97, 3) := by decide +kernel
theorem dX3_tellTrain_7 : decode cX3_tellTrain 7 = .ok (.istore_n 1, 1) := by decide +kernel
theorem dX3_tellTrain_8 : decode cX3_tellTrain 8 = .ok (.aload_n 0, 1) := by decide +kernel
theorem dX3_tellTrain_9 : decode cX3_tellTrain 9 = .ok (.getfield 15, 3) := by decide +kernel
theorem dX3_tellTrain_12 : decode cX3_tellTrain 12 = .ok (.iconst 5, 1) := by decide +kernel
theorem dX3_tellTrain_13 : decode cX3_tellTrain 13 = .ok (.if_icmp .ne 16, 3) := by decide +kernel
theorem dX3_tellTrain_16 : decode cX3_tellTrain 16 = .ok (.iload_n 1, 1) := by decide +kernel
theorem dX3_tellTrain_17 : decode cX3_tellTrain 17 = .ok (.bipush 7, 2) := by decide +kernel
theorem dX3_tellTrain_19 : decode cX3_tellTrain 19 = .ok (.if_icmp .ge 10, 3) := by decide +kernel
theorem dX3_tellTrain_22 : decode cX3_tellTrain 22 = .ok (.aload_n 0, 1) := by decide +kernel
theorem dX3_tellTrain_23 : decode cX3_tellTrain 23 = .ok (.invokevirtual 100, 3) := by decide +kernel
theorem dX3_tellTrain_26 : decode cX3_tellTrain 26 = .ok (.ifCond .ne 5, 3) := by decide +kernel
theorem dX3_tellTrain_29 : decode cX3_tellTrain 29 = .ok (.iconst 0, 1) := by decide +kernel
theorem dX3_tellTrain_30 : decode cX3_tellTrain 30 = .ok (.ireturn, 1) := by decide +kernel
theorem dX3_tellTrain_31 : decode cX3_tellTrain 31 = .ok (.aload_n 0, 1) := by decide +kernel
theorem dX3_tellTrain_32 : decode cX3_tellTrain 32 = .ok (.getfield 23, 3) := by decide +kernel
theorem dX3_tellTrain_35 : decode cX3_tellTrain 35 = .ok (.getfield 103, 3) := by decide +kernel
theorem dX3_tellTrain_38 : decode cX3_tellTrain 38 = .ok (.iload_n 1, 1) := by decide +kernel
theorem dX3_tellTrain_39 : decode cX3_tellTrain 39 = .ok (.aload_n 0, 1) := by decide +kernel
theorem dX3_tellTrain_40 : decode cX3_tellTrain 40 = .ok (.getfield 11, 3) := by decide +kernel
theorem dX3_tellTrain_43 : decode cX3_tellTrain 43 = .ok (.iconst 0, 1) := by decide +kernel
theorem dX3_tellTrain_44 : decode cX3_tellTrain 44 = .ok (.iaload, 1) := by decide +kernel
theorem dX3_tellTrain_45 : decode cX3_tellTrain 45 = .ok (.iastore, 1) := by decide +kernel
theorem dX3_tellTrain_46 : decode cX3_tellTrain 46 = .ok (.aload_n 0, 1) := by decide +kernel
theorem dX3_tellTrain_47 : decode cX3_tellTrain 47 = .ok (.getfield 23, 3) := by decide +kernel
theorem dX3_tellTrain_50 : decode cX3_tellTrain 50 = .ok (.getfield 106, 3) := by decide +kernel
theorem dX3_tellTrain_53 : decode cX3_tellTrain 53 = .ok (.iload_n 1, 1) := by decide +kernel
theorem dX3_tellTrain_54 : decode cX3_tellTrain 54 = .ok (.aload_n 0, 1) := by decide +kernel
theorem dX3_tellTrain_55 : decode cX3_tellTrain 55 = .ok (.getfield 11, 3) := by decide +kernel
theorem dX3_tellTrain_58 : decode cX3_tellTrain 58 = .ok (.iconst 1, 1) := by decide +kernel
theorem dX3_tellTrain_59 : decode cX3_tellTrain 59 = .ok (.iaload, 1) := by decide +kernel
theorem dX3_tellTrain_60 : decode cX3_tellTrain 60 = .ok (.iastore, 1) := by decide +kernel
theorem dX3_tellTrain_61 : decode cX3_tellTrain 61 = .ok (.aload_n 0, 1) := by decide +kernel
theorem dX3_tellTrain_62 : decode cX3_tellTrain 62 = .ok (.getfield 23, 3) := by decide +kernel
theorem dX3_tellTrain_65 : decode cX3_tellTrain 65 = .ok (.getfield 109, 3) := by decide +kernel
theorem dX3_tellTrain_68 : decode cX3_tellTrain 68 = .ok (.iload_n 1, 1) := by decide +kernel
theorem dX3_tellTrain_69 : decode cX3_tellTrain 69 = .ok (.bipush (-4), 2) := by decide +kernel
theorem dX3_tellTrain_71 : decode cX3_tellTrain 71 = .ok (.iastore, 1) := by decide +kernel
theorem dX3_tellTrain_72 : decode cX3_tellTrain 72 = .ok (.aload_n 0, 1) := by decide +kernel
theorem dX3_tellTrain_73 : decode cX3_tellTrain 73 = .ok (.getfield 27, 3) := by decide +kernel
theorem dX3_tellTrain_76 : decode cX3_tellTrain 76 = .ok (.getfield 112, 3) := by decide +kernel
theorem dX3_tellTrain_79 : decode cX3_tellTrain 79 = .ok (.iload_n 1, 1) := by decide +kernel
theorem dX3_tellTrain_80 : decode cX3_tellTrain 80 = .ok (.aload_n 0, 1) := by decide +kernel
theorem dX3_tellTrain_81 : decode cX3_tellTrain 81 = .ok (.getfield 11, 3) := by decide +kernel
theorem dX3_tellTrain_84 : decode cX3_tellTrain 84 = .ok (.iconst 2, 1) := by decide +kernel
theorem dX3_tellTrain_85 : decode cX3_tellTrain 85 = .ok (.iaload, 1) := by decide +kernel
theorem dX3_tellTrain_86 : decode cX3_tellTrain 86 = .ok (.iastore, 1) := by decide +kernel
theorem dX3_tellTrain_87 : decode cX3_tellTrain 87 = .ok (.aload_n 0, 1) := by decide +kernel
theorem dX3_tellTrain_88 : decode cX3_tellTrain 88 = .ok (.getfield 27, 3) := by decide +kernel
theorem dX3_tellTrain_91 : decode cX3_tellTrain 91 = .ok (.getfield 117, 3) := by decide +kernel
theorem dX3_tellTrain_94 : decode cX3_tellTrain 94 = .ok (.iload_n 1, 1) := by decide +kernel
theorem dX3_tellTrain_95 : decode cX3_tellTrain 95 = .ok (.aload_n 0, 1) := by decide +kernel
theorem dX3_tellTrain_96 : decode cX3_tellTrain 96 = .ok (.getfield 11, 3) := by decide +kernel
theorem dX3_tellTrain_99 : decode cX3_tellTrain 99 = .ok (.iconst 3, 1) := by decide +kernel
theorem dX3_tellTrain_100 : decode cX3_tellTrain 100 = .ok (.iaload, 1) := by decide +kernel
theorem dX3_tellTrain_101 : decode cX3_tellTrain 101 = .ok (.iastore, 1) := by decide +kernel
theorem dX3_tellTrain_102 : decode cX3_tellTrain 102 = .ok (.aload_n 0, 1) := by decide +kernel
theorem dX3_tellTrain_103 : decode cX3_tellTrain 103 = .ok (.getfield 27, 3) := by decide +kernel
theorem dX3_tellTrain_106 : decode cX3_tellTrain 106 = .ok (.getfield 120, 3) := by decide +kernel
theorem dX3_tellTrain_109 : decode cX3_tellTrain 109 = .ok (.iload_n 1, 1) := by decide +kernel
theorem dX3_tellTrain_110 : decode cX3_tellTrain 110 = .ok (.aload_n 0, 1) := by decide +kernel
theorem dX3_tellTrain_111 : decode cX3_tellTrain 111 = .ok (.getfield 11, 3) := by decide +kernel
theorem dX3_tellTrain_114 : decode cX3_tellTrain 114 = .ok (.iconst 4, 1) := by decide +kernel
theorem dX3_tellTrain_115 : decode cX3_tellTrain 115 = .ok (.iaload, 1) := by decide +kernel
theorem dX3_tellTrain_116 : decode cX3_tellTrain 116 = .ok (.iastore, 1) := by decide +kernel
theorem dX3_tellTrain_117 : decode cX3_tellTrain 117 = .ok (.aload_n 0, 1) := by decide +kernel
theorem dX3_tellTrain_118 : decode cX3_tellTrain 118 = .ok (.getfield 27, 3) := by decide +kernel
theorem dX3_tellTrain_121 : decode cX3_tellTrain 121 = .ok (.getfield 123, 3) := by decide +kernel
theorem dX3_tellTrain_124 : decode cX3_tellTrain 124 = .ok (.iload_n 1, 1) := by decide +kernel
theorem dX3_tellTrain_125 : decode cX3_tellTrain 125 = .ok (.bipush (-4), 2) := by decide +kernel
theorem dX3_tellTrain_127 : decode cX3_tellTrain 127 = .ok (.iastore, 1) := by decide +kernel
theorem dX3_tellTrain_128 : decode cX3_tellTrain 128 = .ok (.aload_n 0, 1) := by decide +kernel
theorem dX3_tellTrain_129 : decode cX3_tellTrain 129 = .ok (.getfield 23, 3) := by decide +kernel
theorem dX3_tellTrain_132 : decode cX3_tellTrain 132 = .ok (.dup, 1) := by decide +kernel
theorem dX3_tellTrain_133 : decode cX3_tellTrain 133 = .ok (.getfield 97, 3) := by decide +kernel
theorem dX3_tellTrain_136 : decode cX3_tellTrain 136 = .ok (.iconst 1, 1) := by decide +kernel
theorem dX3_tellTrain_137 : decode cX3_tellTrain 137 = .ok (.iadd, 1) := by decide +kernel
theorem dX3_tellTrain_138 : decode cX3_tellTrain 138 = .ok (.putfield 97, 3) := by decide +kernel
theorem dX3_tellTrain_141 : decode cX3_tellTrain 141 = .ok (.iconst 1, 1) := by decide +kernel
theorem dX3_tellTrain_142 : decode cX3_tellTrain 142 = .ok (.ireturn, 1) := by decide +kernel
theorem dX3_isTrain_0 : decode cX3_isTrain 0 = .ok (.aload_n 0, 1) := by decide +kernel
theorem dX3_isTrain_1 : decode cX3_isTrain 1 = .ok (.getfield 23, 3) := by decide +kernel
theorem dX3_isTrain_4 : decode cX3_isTrain 4 = .ok (.aload_n 0, 1) := by decide +kernel
theorem dX3_isTrain_5 : decode cX3_isTrain 5 = .ok (.getfield 11, 3) := by decide +kernel
theorem dX3_isTrain_8 : decode cX3_isTrain 8 = .ok (.iconst 0, 1) := by decide +kernel
theorem dX3_isTrain_9 : decode cX3_isTrain 9 = .ok (.iaload, 1) := by decide +kernel
theorem dX3_isTrain_10 : decode cX3_isTrain 10 = .ok (.invokevirtual 88, 3) := by decide +kernel
theorem dX3_isTrain_13 : decode cX3_isTrain 13 = .ok (.ifCond .eq 23, 3) := by decide +kernel
theorem dX3_isTrain_16 : decode cX3_isTrain 16 = .ok (.aload_n 0, 1) := by decide +kernel
theorem dX3_isTrain_17 : decode cX3_isTrain 17 = .ok (.getfield 23, 3) := by decide +kernel
theorem dX3_isTrain_20 : decode cX3_isTrain 20 = .ok (.aload_n 0, 1) := by decide +kernel
theorem dX3_isTrain_21 : decode cX3_isTrain 21 = .ok (.getfield 11, 3) := by decide +kernel
theorem dX3_isTrain_24 : decode cX3_isTrain 24 = .ok (.iconst 1, 1) := by decide +kernel
theorem dX3_isTrain_25 : decode cX3_isTrain 25 = .ok (.iaload, 1) := by decide +kernel
theorem dX3_isTrain_26 : decode cX3_isTrain 26 = .ok (.invokevirtual 88, 3) := by decide +kernel
theorem dX3_isTrain_29 : decode cX3_isTrain 29 = .ok (.ifCond .eq 7, 3) := by decide +kernel
theorem dX3_isTrain_32 : decode cX3_isTrain 32 = .ok (.iconst 1, 1) := by decide +kernel
theorem dX3_isTrain_33 : decode cX3_isTrain 33 = .ok (.goto 4, 3) := by decide +kernel
theorem dX3_isTrain_36 : decode cX3_isTrain 36 = .ok (.iconst 0, 1) := by decide +kernel
theorem dX3_isTrain_37 : decode cX3_isTrain 37 = .ok (.istore_n 1, 1) := by decide +kernel
theorem dX3_isTrain_38 : decode cX3_isTrain 38 = .ok (.aload_n 0, 1) := by decide +kernel
theorem dX3_isTrain_39 : decode cX3_isTrain 39 = .ok (.getfield 11, 3) := by decide +kernel
theorem dX3_isTrain_42 : decode cX3_isTrain 42 = .ok (.iconst 2, 1) := by decide +kernel
theorem dX3_isTrain_43 : decode cX3_isTrain 43 = .ok (.iaload, 1) := by decide +kernel
theorem dX3_isTrain_44 : decode cX3_isTrain 44 = .ok (.iconst 1, 1) := by decide +kernel
theorem dX3_isTrain_45 : decode cX3_isTrain 45 = .ok (.if_icmp .lt 33, 3) := by decide +kernel
theorem dX3_isTrain_48 : decode cX3_isTrain 48 = .ok (.aload_n 0, 1) := by decide +kernel
theorem dX3_isTrain_49 : decode cX3_isTrain 49 = .ok (.getfield 11, 3) := by decide +kernel
theorem dX3_isTrain_52 : decode cX3_isTrain 52 = .ok (.iconst 3, 1) := by decide +kernel
theorem dX3_isTrain_53 : decode cX3_isTrain 53 = .ok (.iaload, 1) := by decide +kernel
theorem dX3_isTrain_54 : decode cX3_isTrain 54 = .ok (.aload_n 0, 1) := by decide +kernel
theorem dX3_isTrain_55 : decode cX3_isTrain 55 = .ok (.getfield 11, 3) := by decide +kernel
theorem dX3_isTrain_58 : decode cX3_isTrain 58 = .ok (.iconst 2, 1) := by decide +kernel
theorem dX3_isTrain_59 : decode cX3_isTrain 59 = .ok (.iaload, 1) := by decide +kernel
theorem dX3_isTrain_60 : decode cX3_isTrain 60 = .ok (.if_icmp .lt 18, 3) := by decide +kernel
theorem dX3_isTrain_63 : decode cX3_isTrain 63 = .ok (.aload_n 0, 1) := by decide +kernel
theorem dX3_isTrain_64 : decode cX3_isTrain 64 = .ok (.getfield 11, 3) := by decide +kernel
theorem dX3_isTrain_67 : decode cX3_isTrain 67 = .ok (.iconst 3, 1) := by decide +kernel
theorem dX3_isTrain_68 : decode cX3_isTrain 68 = .ok (.iaload, 1) := by decide +kernel
theorem dX3_isTrain_69 : decode cX3_isTrain 69 = .ok (.bipush 98, 2) := by decide +kernel
theorem dX3_isTrain_71 : decode cX3_isTrain 71 = .ok (.if_icmp .gt 7, 3) := by decide +kernel
theorem dX3_isTrain_74 : decode cX3_isTrain 74 = .ok (.iconst 1, 1) := by decide +kernel
theorem dX3_isTrain_75 : decode cX3_isTrain 75 = .ok (.goto 4, 3) := by decide +kernel
theorem dX3_isTrain_78 : decode cX3_isTrain 78 = .ok (.iconst 0, 1) := by decide +kernel
theorem dX3_isTrain_79 : decode cX3_isTrain 79 = .ok (.istore_n 2, 1) := by decide +kernel
theorem dX3_isTrain_80 : decode cX3_isTrain 80 = .ok (.aload_n 0, 1) := by decide +kernel
theorem dX3_isTrain_81 : decode cX3_isTrain 81 = .ok (.getfield 11, 3) := by decide +kernel
theorem dX3_isTrain_84 : decode cX3_isTrain 84 = .ok (.iconst 4, 1) := by decide +kernel
theorem dX3_isTrain_85 : decode cX3_isTrain 85 = .ok (.iaload, 1) := by decide +kernel
theorem dX3_isTrain_86 : decode cX3_isTrain 86 = .ok (.bipush 9, 2) := by decide +kernel
theorem dX3_isTrain_88 : decode cX3_isTrain 88 = .ok (.if_icmp .eq 19, 3) := by decide +kernel
theorem dX3_isTrain_91 : decode cX3_isTrain 91 = .ok (.aload_n 0, 1) := by decide +kernel
theorem dX3_isTrain_92 : decode cX3_isTrain 92 = .ok (.getfield 23, 3) := by decide +kernel
theorem dX3_isTrain_95 : decode cX3_isTrain 95 = .ok (.aload_n 0, 1) := by decide +kernel
theorem dX3_isTrain_96 : decode cX3_isTrain 96 = .ok (.getfield 11, 3) := by decide +kernel
theorem dX3_isTrain_99 : decode cX3_isTrain 99 = .ok (.iconst 4, 1) := by decide +kernel
theorem dX3_isTrain_100 : decode cX3_isTrain 100 = .ok (.iaload, 1) := by decide +kernel
theorem dX3_isTrain_101 : decode cX3_isTrain 101 = .ok (.invokevirtual 91, 3) := by decide +kernel
theorem dX3_isTrain_104 : decode cX3_isTrain 104 = .ok (.ifCond .eq 7, 3) := by decide +kernel
theorem dX3_isTrain_107 : decode cX3_isTrain 107 = .ok (.iconst 1, 1) := by decide +kernel
theorem dX3_isTrain_108 : decode cX3_isTrain 108 = .ok (.goto 4, 3) := by decide +kernel
theorem dX3_isTrain_111 : decode cX3_isTrain 111 = .ok (.iconst 0, 1) := by decide +kernel
theorem dX3_isTrain_112 : decode cX3_isTrain 112 = .ok (.istore_n 3, 1) := by decide +kernel
theorem dX3_isTrain_113 : decode cX3_isTrain 113 = .ok (.iload_n 1, 1) := by decide +kernel
theorem dX3_isTrain_114 : decode cX3_isTrain 114 = .ok (.ifCond .eq 15, 3) := by decide +kernel
theorem dX3_isTrain_117 : decode cX3_isTrain 117 = .ok (.iload_n 2, 1) := by decide +kernel
theorem dX3_isTrain_118 : decode cX3_isTrain 118 = .ok (.ifCond .eq 11, 3) := by decide +kernel
theorem dX3_isTrain_121 : decode cX3_isTrain 121 = .ok (.iload_n 3, 1) := by decide +kernel
theorem dX3_isTrain_122 : decode cX3_isTrain 122 = .ok (.ifCond .eq 7, 3) := by decide +kernel
theorem dX3_isTrain_125 : decode cX3_isTrain 125 = .ok (.iconst 1, 1) := by decide +kernel
theorem dX3_isTrain_126 : decode cX3_isTrain 126 = .ok (.goto 4, 3) := by decide +kernel
theorem dX3_isTrain_129 : decode cX3_isTrain 129 = .ok (.iconst 0, 1) := by decide +kernel
theorem dX3_isTrain_130 : decode cX3_isTrain 130 = .ok (.ireturn, 1) := by decide +kernel
theorem dX3_tellPair_0 : decode cX3_tellPair 0 = .ok (.aload_n 0, 1) := by decide +kernel
theorem dX3_tellPair_1 : decode cX3_tellPair 1 = .ok (.getfield 11, 3) := by decide +kernel
theorem dX3_tellPair_4 : decode cX3_tellPair 4 = .ok (.iconst 0, 1) := by decide +kernel
theorem dX3_tellPair_5 : decode cX3_tellPair 5 = .ok (.iaload, 1) := by decide +kernel
theorem dX3_tellPair_6 : decode cX3_tellPair 6 = .ok (.istore_n 1, 1) := by decide +kernel
theorem dX3_tellPair_7 : decode cX3_tellPair 7 = .ok (.aload_n 0, 1) := by decide +kernel
theorem dX3_tellPair_8 : decode cX3_tellPair 8 = .ok (.getfield 11, 3) := by decide +kernel
theorem dX3_tellPair_11 : decode cX3_tellPair 11 = .ok (.iconst 1, 1) := by decide +kernel
theorem dX3_tellPair_12 : decode cX3_tellPair 12 = .ok (.iaload, 1) := by decide +kernel
theorem dX3_tellPair_13 : decode cX3_tellPair 13 = .ok (.istore_n 2, 1) := by decide +kernel
theorem dX3_tellPair_14 : decode cX3_tellPair 14 = .ok (.aload_n 0, 1) := by decide +kernel
theorem dX3_tellPair_15 : decode cX3_tellPair 15 = .ok (.getfield 15, 3) := by decide +kernel
theorem dX3_tellPair_18 : decode cX3_tellPair 18 = .ok (.iconst 2, 1) := by decide +kernel
theorem dX3_tellPair_19 : decode cX3_tellPair 19 = .ok (.if_icmp .ne 30, 3) := by decide +kernel
theorem dX3_tellPair_22 : decode cX3_tellPair 22 = .ok (.iload_n 1, 1) := by decide +kernel
theorem dX3_tellPair_23 : decode cX3_tellPair 23 = .ok (.iload_n 2, 1) := by decide +kernel
theorem dX3_tellPair_24 : decode cX3_tellPair 24 = .ok (.if_icmp .eq 25, 3) := by decide +kernel
theorem dX3_tellPair_27 : decode cX3_tellPair 27 = .ok (.aload_n 0, 1) := by decide +kernel
theorem dX3_tellPair_28 : decode cX3_tellPair 28 = .ok (.getfield 23, 3) := by decide +kernel
theorem dX3_tellPair_31 : decode cX3_tellPair 31 = .ok (.iload_n 1, 1) := by decide +kernel
theorem dX3_tellPair_32 : decode cX3_tellPair 32 = .ok (.invokevirtual 126, 3) := by decide +kernel
theorem dX3_tellPair_35 : decode cX3_tellPair 35 = .ok (.ifCond .eq 14, 3) := by decide +kernel
theorem dX3_tellPair_38 : decode cX3_tellPair 38 = .ok (.aload_n 0, 1) := by decide +kernel
theorem dX3_tellPair_39 : decode cX3_tellPair 39 = .ok (.getfield 23, 3) := by decide +kernel
theorem dX3_tellPair_42 : decode cX3_tellPair 42 = .ok (.iload_n 2, 1) := by decide +kernel
theorem dX3_tellPair_43 : decode cX3_tellPair 43 = .ok (.invokevirtual 126, 3) := by decide +kernel
theorem dX3_tellPair_46 : decode cX3_tellPair 46 = .ok (.ifCond .ne 5, 3) := by decide +kernel
theorem dX3_tellPair_49 : decode cX3_tellPair 49 = .ok (.iconst 0, 1) := by decide +kernel
theorem dX3_tellPair_50 : decode cX3_tellPair 50 = .ok (.ireturn, 1) := by decide +kernel
theorem dX3_tellPair_51 : decode cX3_tellPair 51 = .ok (.aload_n 0, 1) := by decide +kernel
theorem dX3_tellPair_52 : decode cX3_tellPair 52 = .ok (.getfield 23, 3) := by decide +kernel
theorem dX3_tellPair_55 : decode cX3_tellPair 55 = .ok (.getfield 109, 3) := by decide +kernel
theorem dX3_tellPair_58 : decode cX3_tellPair 58 = .ok (.iload_n 1, 1) := by decide +kernel
theorem dX3_tellPair_59 : decode cX3_tellPair 59 = .ok (.iaload, 1) := by decide +kernel
theorem dX3_tellPair_60 : decode cX3_tellPair 60 = .ok (.bipush (-4), 2) := by decide +kernel
theorem dX3_tellPair_62 : decode cX3_tellPair 62 = .ok (.if_icmp .ne 17, 3) := by decide +kernel
theorem dX3_tellPair_65 : decode cX3_tellPair 65 = .ok (.aload_n 0, 1) := by decide +kernel
theorem dX3_tellPair_66 : decode cX3_tellPair 66 = .ok (.getfield 23, 3) := by decide +kernel
theorem dX3_tellPair_69 : decode cX3_tellPair 69 = .ok (.getfield 109, 3) := by decide +kernel
theorem dX3_tellPair_72 : decode cX3_tellPair 72 = .ok (.iload_n 2, 1) := by decide +kernel
theorem dX3_tellPair_73 : decode cX3_tellPair 73 = .ok (.iaload, 1) := by decide +kernel
theorem dX3_tellPair_74 : decode cX3_tellPair 74 = .ok (.bipush (-4), 2) := by decide +kernel
theorem dX3_tellPair_76 : decode cX3_tellPair 76 = .ok (.if_icmp .eq 5, 3) := by decide +kernel
theorem dX3_tellPair_79 : decode cX3_tellPair 79 = .ok (.iconst 0, 1) := by decide +kernel
theorem dX3_tellPair_80 : decode cX3_tellPair 80 = .ok (.ireturn, 1) := by decide +kernel
theorem dX3_tellPair_81 : decode cX3_tellPair 81 = .ok (.aload_n 0, 1) := by decide +kernel
theorem dX3_tellPair_82 : decode cX3_tellPair 82 = .ok (.getfield 23, 3) := by decide +kernel
theorem dX3_tellPair_85 : decode cX3_tellPair 85 = .ok (.getfield 109, 3) := by decide +kernel
theorem dX3_tellPair_88 : decode cX3_tellPair 88 = .ok (.iload_n 1, 1) := by decide +kernel
theorem dX3_tellPair_89 : decode cX3_tellPair 89 = .ok (.iload_n 2, 1) := by decide +kernel
theorem dX3_tellPair_90 : decode cX3_tellPair 90 = .ok (.iastore, 1) := by decide +kernel
theorem dX3_tellPair_91 : decode cX3_tellPair 91 = .ok (.aload_n 0, 1) := by decide +kernel
theorem dX3_tellPair_92 : decode cX3_tellPair 92 = .ok (.getfield 23, 3) := by decide +kernel
theorem dX3_tellPair_95 : decode cX3_tellPair 95 = .ok (.getfield 109, 3) := by decide +kernel
theorem dX3_tellPair_98 : decode cX3_tellPair 98 = .ok (.iload_n 2, 1) := by decide +kernel
theorem dX3_tellPair_99 : decode cX3_tellPair 99 = .ok (.iload_n 1, 1) := by decide +kernel
theorem dX3_tellPair_100 : decode cX3_tellPair 100 = .ok (.iastore, 1) := by decide +kernel
theorem dX3_tellPair_101 : decode cX3_tellPair 101 = .ok (.iconst 1, 1) := by decide +kernel
theorem dX3_tellPair_102 : decode cX3_tellPair 102 = .ok (.ireturn, 1) := by decide +kernel
theorem dX3_tellGap_0 : decode cX3_tellGap 0 = .ok (.aload_n 0, 1) := by decide +kernel
theorem dX3_tellGap_1 : decode cX3_tellGap 1 = .ok (.getfield 15, 3) := by decide +kernel
theorem dX3_tellGap_4 : decode cX3_tellGap 4 = .ok (.iconst 1, 1) := by decide +kernel
theorem dX3_tellGap_5 : decode cX3_tellGap 5 = .ok (.if_icmp .ne 14, 3) := by decide +kernel
theorem dX3_tellGap_8 : decode cX3_tellGap 8 = .ok (.aload_n 0, 1) := by decide +kernel
theorem dX3_tellGap_9 : decode cX3_tellGap 9 = .ok (.getfield 11, 3) := by decide +kernel
theorem dX3_tellGap_12 : decode cX3_tellGap 12 = .ok (.iconst 0, 1) := by decide +kernel
theorem dX3_tellGap_13 : decode cX3_tellGap 13 = .ok (.iaload, 1) := by decide +kernel
theorem dX3_tellGap_14 : decode cX3_tellGap 14 = .ok (.bipush 9, 2) := by decide +kernel
theorem dX3_tellGap_16 : decode cX3_tellGap 16 = .ok (.if_icmp .le 5, 3) := by decide +kernel
theorem dX3_tellGap_19 : decode cX3_tellGap 19 = .ok (.iconst 0, 1) := by decide +kernel
theorem dX3_tellGap_20 : decode cX3_tellGap 20 = .ok (.ireturn, 1) := by decide +kernel
theorem dX3_tellGap_21 : decode cX3_tellGap 21 = .ok (.aload_n 0, 1) := by decide +kernel
theorem dX3_tellGap_22 : decode cX3_tellGap 22 = .ok (.getfield 23, 3) := by decide +kernel
theorem dX3_tellGap_25 : decode cX3_tellGap 25 = .ok (.aload_n 0, 1) := by decide +kernel
theorem dX3_tellGap_26 : decode cX3_tellGap 26 = .ok (.getfield 11, 3) := by decide +kernel
theorem dX3_tellGap_29 : decode cX3_tellGap 29 = .ok (.iconst 0, 1) := by decide +kernel
theorem dX3_tellGap_30 : decode cX3_tellGap 30 = .ok (.iaload, 1) := by decide +kernel
theorem dX3_tellGap_31 : decode cX3_tellGap 31 = .ok (.putfield 129, 3) := by decide +kernel
theorem dX3_tellGap_34 : decode cX3_tellGap 34 = .ok (.iconst 1, 1) := by decide +kernel
theorem dX3_tellGap_35 : decode cX3_tellGap 35 = .ok (.ireturn, 1) := by decide +kernel
theorem dX4_init_0 : decode cX4_init 0 = .ok (.aload_n 0, 1) := by decide +kernel
theorem dX4_init_1 : decode cX4_init 1 = .ok (.invokespecial 3, 3) := by decide +kernel
theorem dX4_init_4 : decode cX4_init 4 = .ok (.aload_n 0, 1) := by decide +kernel
theorem dX4_init_5 : decode cX4_init 5 = .ok (.bipush 35, 2) := by decide +kernel
theorem dX4_init_7 : decode cX4_init 7 = .ok (.newarray .int, 2) := by decide +kernel
theorem dX4_init_9 : decode cX4_init 9 = .ok (.putfield 11, 3) := by decide +kernel
theorem dX4_init_12 : decode cX4_init 12 = .ok (.aload_n 0, 1) := by decide +kernel
theorem dX4_init_13 : decode cX4_init 13 = .ok (.bipush 8, 2) := by decide +kernel
theorem dX4_init_15 : decode cX4_init 15 = .ok (.newarray .int, 2) := by decide +kernel
theorem dX4_init_17 : decode cX4_init 17 = .ok (.putfield 15, 3) := by decide +kernel
theorem dX4_init_20 : decode cX4_init 20 = .ok (.aload_n 0, 1) := by decide +kernel
theorem dX4_init_21 : decode cX4_init 21 = .ok (.bipush 7, 2) := by decide +kernel
theorem dX4_init_23 : decode cX4_init 23 = .ok (.newarray .int, 2) := by decide +kernel
theorem dX4_init_25 : decode cX4_init 25 = .ok (.putfield 18, 3) := by decide +kernel
theorem dX4_init_28 : decode cX4_init 28 = .ok (.aload_n 0, 1) := by decide +kernel
theorem dX4_init_29 : decode cX4_init 29 = .ok (.bipush 7, 2) := by decide +kernel
theorem dX4_init_31 : decode cX4_init 31 = .ok (.newarray .int, 2) := by decide +kernel
theorem dX4_init_33 : decode cX4_init 33 = .ok (.putfield 21, 3) := by decide +kernel
theorem dX4_init_36 : decode cX4_init 36 = .ok (.aload_n 0, 1) := by decide +kernel
theorem dX4_init_37 : decode cX4_init 37 = .ok (.sipush 1000, 3) := by decide +kernel
theorem dX4_init_40 : decode cX4_init 40 = .ok (.putfield 24, 3) := by decide +kernel
theorem dX4_init_43 : decode cX4_init 43 = .ok (.aload_n 0, 1) := by decide +kernel
theorem dX4_init_44 : decode cX4_init 44 = .ok (.aload_n 1, 1) := by decide +kernel
theorem dX4_init_45 : decode cX4_init 45 = .ok (.putfield 28, 3) := by decide +kernel
theorem dX4_init_48 : decode cX4_init 48 = .ok (.aload_n 0, 1) := by decide +kernel
theorem dX4_init_49 : decode cX4_init 49 = .ok (.aload_n 2, 1) := by decide +kernel
theorem dX4_init_50 : decode cX4_init 50 = .ok (.putfield 32, 3) := by decide +kernel
theorem dX4_init_53 : decode cX4_init 53 = .ok (.aload_n 0, 1) := by decide +kernel
theorem dX4_init_54 : decode cX4_init 54 = .ok (.aload_n 3, 1) := by decide +kernel
theorem dX4_init_55 : decode cX4_init 55 = .ok (.putfield 36, 3) := by decide +kernel
theorem dX4_init_58 : decode cX4_init 58 = .ok (.return_, 1) := by decide +kernel
theorem dX4_find_0 : decode cX4_find 0 = .ok (.aload_n 0, 1) := by decide +kernel
theorem dX4_find_1 : decode cX4_find 1 = .ok (.iload_n 1, 1) := by decide +kernel
theorem dX4_find_2 : decode cX4_find 2 = .ok (.iconst 0, 1) := by decide +kernel
theorem dX4_find_3 : decode cX4_find 3 = .ok (.invokevirtual 40, 3) := by decide +kernel
theorem dX4_find_6 : decode cX4_find 6 = .ok (.aload_n 0, 1) := by decide +kernel
theorem dX4_find_7 : decode cX4_find 7 = .ok (.invokevirtual 44, 3) := by decide +kernel
theorem dX4_find_10 : decode cX4_find 10 = .ok (.return_, 1) := by decide +kernel
theorem dX4_findAvoiding_0 : decode cX4_findAvoiding 0 = .ok (.aload_n 0, 1) := by decide +kernel
theorem dX4_findAvoiding_1 : decode cX4_findAvoiding 1 = .ok (.iconst 0, 1) := by decide +kernel
theorem dX4_findAvoiding_2 : decode cX4_findAvoiding 2 = .ok (.iload_n 1, 1) := by decide +kernel
theorem dX4_findAvoiding_3 : decode cX4_findAvoiding 3 = .ok (.invokevirtual 40, 3) := by decide +kernel
theorem dX4_findAvoiding_6 : decode cX4_findAvoiding 6 = .ok (.aload_n 0, 1) := by decide +kernel
theorem dX4_findAvoiding_7 : decode cX4_findAvoiding 7 = .ok (.invokevirtual 44, 3) := by decide +kernel
theorem dX4_findAvoiding_10 : decode cX4_findAvoiding 10 = .ok (.return_, 1) := by decide +kernel
theorem dX4_trackless_0 : decode cX4_trackless 0 = .ok (.iconst 0, 1) := by decide +kernel
theorem dX4_trackless_1 : decode cX4_trackless 1 = .ok (.istore_n 1, 1) := by decide +kernel
theorem dX4_trackless_2 : decode cX4_trackless 2 = .ok (.iconst 0, 1) := by decide +kernel
theorem dX4_trackless_3 : decode cX4_trackless 3 = .ok (.istore_n 2, 1) := by decide +kernel
theorem dX4_trackless_4 : decode cX4_trackless 4 = .ok (.iload_n 2, 1) := by decide +kernel
theorem dX4_trackless_5 : decode cX4_trackless 5 = .ok (.aload_n 0, 1) := by decide +kernel
theorem dX4_trackless_6 : decode cX4_trackless 6 = .ok (.getfield 28, 3) := by decide +kernel
theorem dX4_trackless_9 : decode cX4_trackless 9 = .ok (.getfield 47, 3) := by decide +kernel
theorem dX4_trackless_12 : decode cX4_trackless 12 = .ok (.if_icmp .ge 23, 3) := by decide +kernel
theorem dX4_trackless_15 : decode cX4_trackless 15 = .ok (.aload_n 0, 1) := by decide +kernel
theorem dX4_trackless_16 : decode cX4_trackless 16 = .ok (.getfield 21, 3) := by decide +kernel
theorem dX4_trackless_19 : decode cX4_trackless 19 = .ok (.iload_n 2, 1) := by decide +kernel
theorem dX4_trackless_20 : decode cX4_trackless 20 = .ok (.iaload, 1) := by decide +kernel
theorem dX4_trackless_21 : decode cX4_trackless 21 = .ok (.bipush (-4), 2) := by decide +kernel
theorem dX4_trackless_23 : decode cX4_trackless 23 = .ok (.if_icmp .ne 6, 3) := by decide +kernel
theorem dX4_trackless_26 : decode cX4_trackless 26 = .ok (.iinc 1 1, 3) := by decide +kernel
theorem dX4_trackless_29 : decode cX4_trackless 29 = .ok (.iinc 2 1, 3) := by decide +kernel
theorem dX4_trackless_32 : decode cX4_trackless 32 = .ok (.goto (-28), 3) := by decide +kernel
theorem dX4_trackless_35 : decode cX4_trackless 35 = .ok (.iload_n 1, 1) := by decide +kernel
theorem dX4_trackless_36 : decode cX4_trackless 36 = .ok (.ireturn, 1) := by decide +kernel
theorem dX4_weigh_0 : decode cX4_weigh 0 = .ok (.iconst 0, 1) := by decide +kernel
theorem dX4_weigh_1 : decode cX4_weigh 1 = .ok (.istore_n 3, 1) := by decide +kernel
theorem dX4_weigh_2 : decode cX4_weigh 2 = .ok (.iload_n 3, 1) := by decide +kernel
theorem dX4_weigh_3 : decode cX4_weigh 3 = .ok (.aload_n 0, 1) := by decide +kernel
theorem dX4_weigh_4 : decode cX4_weigh 4 = .ok (.getfield 28, 3) := by decide +kernel
theorem dX4_weigh_7 : decode cX4_weigh 7 = .ok (.getfield 47, 3) := by decide +kernel
theorem dX4_weigh_10 : decode cX4_weigh 10 = .ok (.if_icmp .ge 152, 3) := by decide +kernel
theorem dX4_weigh_13 : decode cX4_weigh 13 = .ok (.iload_n 1, 1) := by decide +kernel
theorem dX4_weigh_14 : decode cX4_weigh 14 = .ok (.ifCond .ne 15, 3) := by decide +kernel
theorem dX4_weigh_17 : decode cX4_weigh 17 = .ok (.aload_n 0, 1) := by decide +kernel
theorem dX4_weigh_18 : decode cX4_weigh 18 = .ok (.getfield 32, 3) := by decide +kernel
theorem dX4_weigh_21 : decode cX4_weigh 21 = .ok (.getfield 52, 3) := by decide +kernel
theorem dX4_weigh_24 : decode cX4_weigh 24 = .ok (.iload_n 3, 1) := by decide +kernel
theorem dX4_weigh_25 : decode cX4_weigh 25 = .ok (.iaload, 1) := by decide +kernel
theorem dX4_weigh_26 : decode cX4_weigh 26 = .ok (.goto 12, 3) := by decide +kernel
theorem dX4_weigh_29 : decode cX4_weigh 29 = .ok (.aload_n 0, 1) := by decide +kernel
theorem dX4_weigh_30 : decode cX4_weigh 30 = .ok (.getfield 32, 3) := by decide +kernel
theorem dX4_weigh_33 : decode cX4_weigh 33 = .ok (.getfield 57, 3) := by decide +kernel
theorem dX4_weigh_36 : decode cX4_weigh 36 = .ok (.iload_n 3, 1) := by decide +kernel
theorem dX4_weigh_37 : decode cX4_weigh 37 = .ok (.iaload, 1) := by decide +kernel
theorem dX4_weigh_38 : decode cX4_weigh 38 = .ok (.istore 4, 2) := by decide +kernel
theorem dX4_weigh_40 : decode cX4_weigh 40 = .ok (.iconst 0, 1) := by decide +kernel
theorem dX4_weigh_41 : decode cX4_weigh 41 = .ok (.istore 5, 2) := by decide +kernel
theorem dX4_weigh_43 : decode cX4_weigh 43 = .ok (.iload 5, 2) := by decide +kernel
theorem dX4_weigh_45 : decode cX4_weigh 45 = .ok (.aload_n 0, 1) := by decide +kernel
theorem dX4_weigh_46 : decode cX4_weigh 46 = .ok (.getfield 28, 3) := by decide +kernel
theorem dX4_weigh_49 : decode cX4_weigh 49 = .ok (.getfield 60, 3) := by decide +kernel
theorem dX4_weigh_52 : decode cX4_weigh 52 = .ok (.if_icmp .ge 84, 3) := by decide +kernel
theorem dX4_weigh_55 : decode cX4_weigh 55 = .ok (.aload_n 0, 1) := by decide +kernel
theorem dX4_weigh_56 : decode cX4_weigh 56 = .ok (.getfield 28, 3) := by decide +kernel
theorem dX4_weigh_59 : decode cX4_weigh 59 = .ok (.iload_n 3, 1) := by decide +kernel
theorem dX4_weigh_60 : decode cX4_weigh 60 = .ok (.iload 5, 2) := by decide +kernel
theorem dX4_weigh_62 : decode cX4_weigh 62 = .ok (.invokevirtual 63, 3) := by decide +kernel
theorem dX4_weigh_65 : decode cX4_weigh 65 = .ok (.ifCond .eq 33, 3) := by decide +kernel
theorem dX4_weigh_68 : decode cX4_weigh 68 = .ok (.aload_n 0, 1) := by decide +kernel
theorem dX4_weigh_69 : decode cX4_weigh 69 = .ok (.getfield 28, 3) := by decide +kernel
theorem dX4_weigh_72 : decode cX4_weigh 72 = .ok (.iload_n 3, 1) := by decide +kernel
theorem dX4_weigh_73 : decode cX4_weigh 73 = .ok (.iload 5, 2) := by decide +kernel
theorem dX4_weigh_75 : decode cX4_weigh 75 = .ok (.invokevirtual 67, 3) := by decide +kernel
theorem dX4_weigh_78 : decode cX4_weigh 78 = .ok (.aload_n 0, 1) := by decide +kernel
theorem dX4_weigh_79 : decode cX4_weigh 79 = .ok (.getfield 28, 3) := by decide +kernel
theorem dX4_weigh_82 : decode cX4_weigh 82 = .ok (.iload_n 3, 1) := by decide +kernel
theorem dX4_weigh_83 : decode cX4_weigh 83 = .ok (.iload 5, 2) := by decide +kernel
theorem dX4_weigh_85 : decode cX4_weigh 85 = .ok (.invokevirtual 71, 3) := by decide +kernel
theorem dX4_weigh_88 : decode cX4_weigh 88 = .ok (.ior, 1) := by decide +kernel
theorem dX4_weigh_89 : decode cX4_weigh 89 = .ok (.iload_n 2, 1) := by decide +kernel
theorem dX4_weigh_90 : decode cX4_weigh 90 = .ok (.iand, 1) := by decide +kernel
theorem dX4_weigh_91 : decode cX4_weigh 91 = .ok (.ifCond .ne 7, 3) := by decide +kernel
theorem dX4_weigh_94 : decode cX4_weigh 94 = .ok (.iconst 1, 1) := by decide +kernel
theorem dX4_weigh_95 : decode cX4_weigh 95 = .ok (.goto 4, 3) := by decide +kernel
theorem dX4_weigh_98 : decode cX4_weigh 98 = .ok (.iconst 0, 1) := by decide +kernel
theorem dX4_weigh_99 : decode cX4_weigh 99 = .ok (.istore 6, 2) := by decide +kernel
theorem dX4_weigh_101 : decode cX4_weigh 101 = .ok (.aload_n 0, 1) := by decide +kernel
theorem dX4_weigh_102 : decode cX4_weigh 102 = .ok (.getfield 11, 3) := by decide +kernel
theorem dX4_weigh_105 : decode cX4_weigh 105 = .ok (.iload_n 3, 1) := by decide +kernel
theorem dX4_weigh_106 : decode cX4_weigh 106 = .ok (.iconst 5, 1) := by decide +kernel
theorem dX4_weigh_107 : decode cX4_weigh 107 = .ok (.imul, 1) := by decide +kernel
theorem dX4_weigh_108 : decode cX4_weigh 108 = .ok (.iload 5, 2) := by decide +kernel
theorem dX4_weigh_110 : decode cX4_weigh 110 = .ok (.iadd, 1) := by decide +kernel
theorem dX4_weigh_111 : decode cX4_weigh 111 = .ok (.iload 6, 2) := by decide +kernel
theorem dX4_weigh_113 : decode cX4_weigh 113 = .ok (.ifCond .eq 13, 3) := by decide +kernel
theorem dX4_weigh_116 : decode cX4_weigh 116 = .ok (.iload 4, 2) := by decide +kernel
theorem dX4_weigh_118 : decode cX4_weigh 118 = .ok (.iload 5, 2) := by decide +kernel
theorem dX4_weigh_120 : decode cX4_weigh 120 = .ok (.invokestatic 74, 3) := by decide +kernel
theorem dX4_weigh_123 : decode cX4_weigh 123 = .ok (.goto 6, 3) := by decide +kernel
theorem dX4_weigh_126 : decode cX4_weigh 126 = .ok (.sipush 1000, 3) := by decide +kernel
theorem dX4_weigh_129 : decode cX4_weigh 129 = .ok (.iastore, 1) := by decide +kernel
theorem dX4_weigh_130 : decode cX4_weigh 130 = .ok (.iinc 5 1, 3) := by decide +kernel
theorem dX4_weigh_133 : decode cX4_weigh 133 = .ok (.goto (-90), 3) := by decide +kernel
theorem dX4_weigh_136 : decode cX4_weigh 136 = .ok (.aload_n 0, 1) := by decide +kernel
theorem dX4_weigh_137 : decode cX4_weigh 137 = .ok (.getfield 11, 3) := by decide +kernel
theorem dX4_weigh_140 : decode cX4_weigh 140 = .ok (.iload_n 3, 1) := by decide +kernel
theorem dX4_weigh_141 : decode cX4_weigh 141 = .ok (.iconst 5, 1) := by decide +kernel
theorem dX4_weigh_142 : decode cX4_weigh 142 = .ok (.imul, 1) := by decide +kernel
theorem dX4_weigh_143 : decode cX4_weigh 143 = .ok (.iconst 4, 1) := by decide +kernel
theorem dX4_weigh_144 : decode cX4_weigh 144 = .ok (.iadd, 1) := by decide +kernel
theorem dX4_weigh_145 : decode cX4_weigh 145 = .ok (.bipush 8, 2) := by decide +kernel
theorem dX4_weigh_147 : decode cX4_weigh 147 = .ok (.iload 4, 2) := by decide +kernel
theorem dX4_weigh_149 : decode cX4_weigh 149 = .ok (.bipush (-4), 2) := by decide +kernel
theorem dX4_weigh_151 : decode cX4_weigh 151 = .ok (.invokestatic 74, 3) := by decide +kernel
theorem dX4_weigh_154 : decode cX4_weigh 154 = .ok (.iadd, 1) := by decide +kernel
theorem dX4_weigh_155 : decode cX4_weigh 155 = .ok (.iastore, 1) := by decide +kernel
theorem dX4_weigh_156 : decode cX4_weigh 156 = .ok (.iinc 3 1, 3) := by decide +kernel
theorem dX4_weigh_159 : decode cX4_weigh 159 = .ok (.goto (-157), 3) := by decide +kernel
theorem dX4_weigh_162 : decode cX4_weigh 162 = .ok (.return_, 1) := by decide +kernel
theorem dX4_costOf_0 : decode cX4_costOf 0 = .ok (.iload_n 0, 1) := by decide +kernel
theorem dX4_costOf_1 : decode cX4_costOf 1 = .ok (.iload_n 1, 1) := by decide +kernel
theorem dX4_costOf_2 : decode cX4_costOf 2 = .ok (.if_icmp .ne 7, 3) := by decide +kernel
theorem dX4_costOf_5 : decode cX4_costOf 5 = .ok (.iconst 0, 1) := by decide +kernel
theorem dX4_costOf_6 : decode cX4_costOf 6 = .ok (.goto 4, 3) := by decide +kernel
theorem dX4_costOf_9 : decode cX4_costOf 9 = .ok (.iconst 1, 1) := by decide +kernel
theorem dX4_costOf_10 : decode cX4_costOf 10 = .ok (.ireturn, 1) := by decide +kernel
theorem dX4_start_0 : decode cX4_start 0 = .ok (.aload_n 0, 1) := by decide +kernel
theorem dX4_start_1 : decode cX4_start 1 = .ok (.getfield 15, 3) := by decide +kernel
theorem dX4_start_4 : decode cX4_start 4 = .ok (.aload_n 0, 1) := by decide +kernel
theorem dX4_start_5 : decode cX4_start 5 = .ok (.getfield 28, 3) := by decide +kernel
theorem dX4_start_8 : decode cX4_start 8 = .ok (.getfield 47, 3) := by decide +kernel
theorem dX4_start_11 : decode cX4_start 11 = .ok (.iconst 0, 1) := by decide +kernel
theorem dX4_start_12 : decode cX4_start 12 = .ok (.iastore, 1) := by decide +kernel
theorem dX4_start_13 : decode cX4_start 13 = .ok (.aload_n 0, 1) := by decide +kernel
theorem dX4_start_14 : decode cX4_start 14 = .ok (.getfield 28, 3) := by decide +kernel
theorem dX4_start_17 : decode cX4_start 17 = .ok (.getfield 47, 3) := by decide +kernel
theorem dX4_start_20 : decode cX4_start 20 = .ok (.iconst 1, 1) := by decide +kernel
theorem dX4_start_21 : decode cX4_start 21 = .ok (.isub, 1) := by decide +kernel
theorem dX4_start_22 : decode cX4_start 22 = .ok (.istore_n 1, 1) := by decide +kernel
theorem dX4_start_23 : decode cX4_start 23 = .ok (.iload_n 1, 1) := by decide +kernel
theorem dX4_start_24 : decode cX4_start 24 = .ok (.ifCond .lt 70, 3) := by decide +kernel
theorem dX4_start_27 : decode cX4_start 27 = .ok (.aload_n 0, 1) := by decide +kernel
theorem dX4_start_28 : decode cX4_start 28 = .ok (.getfield 11, 3) := by decide +kernel
theorem dX4_start_31 : decode cX4_start 31 = .ok (.iload_n 1, 1) := by decide +kernel
theorem dX4_start_32 : decode cX4_start 32 = .ok (.iconst 5, 1) := by decide +kernel
theorem dX4_start_33 : decode cX4_start 33 = .ok (.imul, 1) := by decide +kernel
theorem dX4_start_34 : decode cX4_start 34 = .ok (.iconst 4, 1) := by decide +kernel
theorem dX4_start_35 : decode cX4_start 35 = .ok (.iadd, 1) := by decide +kernel
theorem dX4_start_36 : decode cX4_start 36 = .ok (.iaload, 1) := by decide +kernel
theorem dX4_start_37 : decode cX4_start 37 = .ok (.istore_n 2, 1) := by decide +kernel
theorem dX4_start_38 : decode cX4_start 38 = .ok (.iconst 0, 1) := by decide +kernel
theorem dX4_start_39 : decode cX4_start 39 = .ok (.istore_n 3, 1) := by decide +kernel
theorem dX4_start_40 : decode cX4_start 40 = .ok (.iload_n 3, 1) := by decide +kernel
theorem dX4_start_41 : decode cX4_start 41 = .ok (.aload_n 0, 1) := by decide +kernel
theorem dX4_start_42 : decode cX4_start 42 = .ok (.getfield 28, 3) := by decide +kernel
theorem dX4_start_45 : decode cX4_start 45 = .ok (.getfield 60, 3) := by decide +kernel
theorem dX4_start_48 : decode cX4_start 48 = .ok (.if_icmp .ge 24, 3) := by decide +kernel
theorem dX4_start_51 : decode cX4_start 51 = .ok (.iload_n 2, 1) := by decide +kernel
theorem dX4_start_52 : decode cX4_start 52 = .ok (.aload_n 0, 1) := by decide +kernel
theorem dX4_start_53 : decode cX4_start 53 = .ok (.getfield 11, 3) := by decide +kernel
theorem dX4_start_56 : decode cX4_start 56 = .ok (.iload_n 1, 1) := by decide +kernel
theorem dX4_start_57 : decode cX4_start 57 = .ok (.iconst 5, 1) := by decide +kernel
theorem dX4_start_58 : decode cX4_start 58 = .ok (.imul, 1) := by decide +kernel
theorem dX4_start_59 : decode cX4_start 59 = .ok (.iload_n 3, 1) := by decide +kernel
theorem dX4_start_60 : decode cX4_start 60 = .ok (.iadd, 1) := by decide +kernel
theorem dX4_start_61 : decode cX4_start 61 = .ok (.iaload, 1) := by decide +kernel
theorem dX4_start_62 : decode cX4_start 62 = .ok (.invokestatic 77, 3) := by decide +kernel
theorem dX4_start_65 : decode cX4_start 65 = .ok (.istore_n 2, 1) := by decide +kernel
theorem dX4_start_66 : decode cX4_start 66 = .ok (.iinc 3 1, 3) := by decide +kernel
theorem dX4_start_69 : decode cX4_start 69 = .ok (.goto (-29), 3) := by decide +kernel
theorem dX4_start_72 : decode cX4_start 72 = .ok (.aload_n 0, 1) := by decide +kernel
theorem dX4_start_73 : decode cX4_start 73 = .ok (.getfield 15, 3) := by decide +kernel
theorem dX4_start_76 : decode cX4_start 76 = .ok (.iload_n 1, 1) := by decide +kernel
theorem dX4_start_77 : decode cX4_start 77 = .ok (.aload_n 0, 1) := by decide +kernel
theorem dX4_start_78 : decode cX4_start 78 = .ok (.getfield 15, 3) := by decide +kernel
theorem dX4_start_81 : decode cX4_start 81 = .ok (.iload_n 1, 1) := by decide +kernel
theorem dX4_start_82 : decode cX4_start 82 = .ok (.iconst 1, 1) := by decide +kernel
theorem dX4_start_83 : decode cX4_start 83 = .ok (.iadd, 1) := by decide +kernel
theorem dX4_start_84 : decode cX4_start 84 = .ok (.iaload, 1) := by decide +kernel
theorem dX4_start_85 : decode cX4_start 85 = .ok (.iload_n 2, 1) := by decide +kernel
theorem dX4_start_86 : decode cX4_start 86 = .ok (.iadd, 1) := by decide +kernel
theorem dX4_start_87 : decode cX4_start 87 = .ok (.iastore, 1) := by decide +kernel
theorem dX4_start_88 : decode cX4_start 88 = .ok (.iinc 1 (-1), 3) := by decide +kernel
theorem dX4_start_91 : decode cX4_start 91 = .ok (.goto (-68), 3) := by decide +kernel
theorem dX4_start_94 : decode cX4_start 94 = .ok (.aload_n 0, 1) := by decide +kernel
theorem dX4_start_95 : decode cX4_start 95 = .ok (.sipush 1000, 3) := by decide +kernel
theorem dX4_start_98 : decode cX4_start 98 = .ok (.putfield 24, 3) := by decide +kernel
theorem dX4_start_101 : decode cX4_start 101 = .ok (.aload_n 0, 1) := by decide +kernel
theorem dX4_start_102 : decode cX4_start 102 = .ok (.iconst 0, 1) := by decide +kernel
theorem dX4_start_103 : decode cX4_start 103 = .ok (.iconst 0, 1) := by decide +kernel
theorem dX4_start_104 : decode cX4_start 104 = .ok (.iconst 0, 1) := by decide +kernel
theorem dX4_start_105 : decode cX4_start 105 = .ok (.invokevirtual 82, 3) := by decide +kernel
theorem dX4_start_108 : decode cX4_start 108 = .ok (.return_, 1) := by decide +kernel
theorem dX4_seek_0 : decode cX4_seek 0 = .ok (.iload_n 1, 1) := by decide +kernel
theorem dX4_seek_1 : decode cX4_seek 1 = .ok (.aload_n 0, 1) := by decide +kernel
theorem dX4_seek_2 : decode cX4_seek 2 = .ok (.getfield 28, 3) := by decide +kernel
theorem dX4_seek_5 : decode cX4_seek 5 = .ok (.getfield 47, 3) := by decide +kernel
theorem dX4_seek_8 : decode cX4_seek 8 = .ok (.if_icmp .lt 9, 3) := by decide +kernel
theorem dX4_seek_11 : decode cX4_seek 11 = .ok (.aload_n 0, 1) := by decide +kernel
theorem dX4_seek_12 : decode cX4_seek 12 = .ok (.iload_n 2, 1) := by decide +kernel
theorem dX4_seek_13 : decode cX4_seek 13 = .ok (.invokevirtual 86, 3) := by decide +kernel
theorem dX4_seek_16 : decode cX4_seek 16 = .ok (.return_, 1) := by decide +kernel
theorem dX4_seek_17 : decode cX4_seek 17 = .ok (.iload_n 2, 1) := by decide +kernel
theorem dX4_seek_18 : decode cX4_seek 18 = .ok (.aload_n 0, 1) := by decide +kernel
theorem dX4_seek_19 : decode cX4_seek 19 = .ok (.getfield 15, 3) := by decide +kernel
theorem dX4_seek_22 : decode cX4_seek 22 = .ok (.iload_n 1, 1) := by decide +kernel
theorem dX4_seek_23 : decode cX4_seek 23 = .ok (.iaload, 1) := by decide +kernel
theorem dX4_seek_24 : decode cX4_seek 24 = .ok (.iadd, 1) := by decide +kernel
theorem dX4_seek_25 : decode cX4_seek 25 = .ok (.aload_n 0, 1) := by decide +kernel
theorem dX4_seek_26 : decode cX4_seek 26 = .ok (.getfield 24, 3) := by decide +kernel
theorem dX4_seek_29 : decode cX4_seek 29 = .ok (.if_icmp .lt 4, 3) := by decide +kernel
theorem dX4_seek_32 : decode cX4_seek 32 = .ok (.return_, 1) := by decide +kernel
theorem dX4_seek_33 : decode cX4_seek 33 = .ok (.iconst 0, 1) := by decide +kernel
theorem dX4_seek_34 : decode cX4_seek 34 = .ok (.istore 4, 2) := by decide +kernel
theorem dX4_seek_36 : decode cX4_seek 36 = .ok (.iload 4, 2) := by decide +kernel
theorem dX4_seek_38 : decode cX4_seek 38 = .ok (.aload_n 0, 1) := by decide +kernel
theorem dX4_seek_39 : decode cX4_seek 39 = .ok (.getfield 28, 3) := by decide +kernel
theorem dX4_seek_42 : decode cX4_seek 42 = .ok (.getfield 60, 3) := by decide +kernel
theorem dX4_seek_45 : decode cX4_seek 45 = .ok (.if_icmp .ge 78, 3) := by decide +kernel
theorem dX4_seek_48 : decode cX4_seek 48 = .ok (.aload_n 0, 1) := by decide +kernel
theorem dX4_seek_49 : decode cX4_seek 49 = .ok (.getfield 11, 3) := by decide +kernel
theorem dX4_seek_52 : decode cX4_seek 52 = .ok (.iload_n 1, 1) := by decide +kernel
theorem dX4_seek_53 : decode cX4_seek 53 = .ok (.iconst 5, 1) := by decide +kernel
theorem dX4_seek_54 : decode cX4_seek 54 = .ok (.imul, 1) := by decide +kernel
theorem dX4_seek_55 : decode cX4_seek 55 = .ok (.iload 4, 2) := by decide +kernel
theorem dX4_seek_57 : decode cX4_seek 57 = .ok (.iadd, 1) := by decide +kernel
theorem dX4_seek_58 : decode cX4_seek 58 = .ok (.iaload, 1) := by decide +kernel
theorem dX4_seek_59 : decode cX4_seek 59 = .ok (.istore 5, 2) := by decide +kernel
theorem dX4_seek_61 : decode cX4_seek 61 = .ok (.iload_n 1, 1) := by decide +kernel
theorem dX4_seek_62 : decode cX4_seek 62 = .ok (.iload 4, 2) := by decide +kernel
theorem dX4_seek_64 : decode cX4_seek 64 = .ok (.invokestatic 90, 3) := by decide +kernel
theorem dX4_seek_67 : decode cX4_seek 67 = .ok (.istore 6, 2) := by decide +kernel
theorem dX4_seek_69 : decode cX4_seek 69 = .ok (.iload 5, 2) := by decide +kernel
theorem dX4_seek_71 : decode cX4_seek 71 = .ok (.sipush 1000, 3) := by decide +kernel
theorem dX4_seek_74 : decode cX4_seek 74 = .ok (.if_icmp .eq 43, 3) := by decide +kernel
theorem dX4_seek_77 : decode cX4_seek 77 = .ok (.aload_n 0, 1) := by decide +kernel
theorem dX4_seek_78 : decode cX4_seek 78 = .ok (.getfield 36, 3) := by decide +kernel
theorem dX4_seek_81 : decode cX4_seek 81 = .ok (.getfield 95, 3) := by decide +kernel
theorem dX4_seek_84 : decode cX4_seek 84 = .ok (.iload 6, 2) := by decide +kernel
theorem dX4_seek_86 : decode cX4_seek 86 = .ok (.iaload, 1) := by decide +kernel
theorem dX4_seek_87 : decode cX4_seek 87 = .ok (.iload_n 3, 1) := by decide +kernel
theorem dX4_seek_88 : decode cX4_seek 88 = .ok (.iand, 1) := by decide +kernel
theorem dX4_seek_89 : decode cX4_seek 89 = .ok (.ifCond .ne 28, 3) := by decide +kernel
theorem dX4_seek_92 : decode cX4_seek 92 = .ok (.aload_n 0, 1) := by decide +kernel
theorem dX4_seek_93 : decode cX4_seek 93 = .ok (.getfield 18, 3) := by decide +kernel
theorem dX4_seek_96 : decode cX4_seek 96 = .ok (.iload_n 1, 1) := by decide +kernel
theorem dX4_seek_97 : decode cX4_seek 97 = .ok (.iload 4, 2) := by decide +kernel
theorem dX4_seek_99 : decode cX4_seek 99 = .ok (.iastore, 1) := by decide +kernel
theorem dX4_seek_100 : decode cX4_seek 100 = .ok (.aload_n 0, 1) := by decide +kernel
theorem dX4_seek_101 : decode cX4_seek 101 = .ok (.iload_n 1, 1) := by decide +kernel
theorem dX4_seek_102 : decode cX4_seek 102 = .ok (.iconst 1, 1) := by decide +kernel
theorem dX4_seek_103 : decode cX4_seek 103 = .ok (.iadd, 1) := by decide +kernel
theorem dX4_seek_104 : decode cX4_seek 104 = .ok (.iload_n 2, 1) := by decide +kernel
theorem dX4_seek_105 : decode cX4_seek 105 = .ok (.iload 5, 2) := by decide +kernel
theorem dX4_seek_107 : decode cX4_seek 107 = .ok (.iadd, 1) := by decide +kernel
theorem dX4_seek_108 : decode cX4_seek 108 = .ok (.iload_n 3, 1) := by decide +kernel
theorem dX4_seek_109 : decode cX4_seek 109 = .ok (.iconst 1, 1) := by decide +kernel
theorem dX4_seek_110 : decode cX4_seek 110 = .ok (.iload 6, 2) := by decide +kernel
theorem dX4_seek_112 : decode cX4_seek 112 = .ok (.ishl, 1) := by decide +kernel
theorem dX4_seek_113 : decode cX4_seek 113 = .ok (.ior, 1) := by decide +kernel
theorem dX4_seek_114 : decode cX4_seek 114 = .ok (.invokevirtual 82, 3) := by decide +kernel
theorem dX4_seek_117 : decode cX4_seek 117 = .ok (.iinc 4 1, 3) := by decide +kernel
theorem dX4_seek_120 : decode cX4_seek 120 = .ok (.goto (-84), 3) := by decide +kernel
theorem dX4_seek_123 : decode cX4_seek 123 = .ok (.aload_n 0, 1) := by decide +kernel
theorem dX4_seek_124 : decode cX4_seek 124 = .ok (.getfield 18, 3) := by decide +kernel
theorem dX4_seek_127 : decode cX4_seek 127 = .ok (.iload_n 1, 1) := by decide +kernel
theorem dX4_seek_128 : decode cX4_seek 128 = .ok (.bipush (-4), 2) := by decide +kernel
theorem dX4_seek_130 : decode cX4_seek 130 = .ok (.iastore, 1) := by decide +kernel
theorem dX4_seek_131 : decode cX4_seek 131 = .ok (.aload_n 0, 1) := by decide +kernel
theorem dX4_seek_132 : decode cX4_seek 132 = .ok (.iload_n 1, 1) := by decide +kernel
theorem dX4_seek_133 : decode cX4_seek 133 = .ok (.iconst 1, 1) := by decide +kernel
theorem dX4_seek_134 : decode cX4_seek 134 = .ok (.iadd, 1) := by decide +kernel
theorem dX4_seek_135 : decode cX4_seek 135 = .ok (.iload_n 2, 1) := by decide +kernel
theorem dX4_seek_136 : decode cX4_seek 136 = .ok (.aload_n 0, 1) := by decide +kernel
theorem dX4_seek_137 : decode cX4_seek 137 = .ok (.getfield 11, 3) := by decide +kernel
theorem dX4_seek_140 : decode cX4_seek 140 = .ok (.iload_n 1, 1) := by decide +kernel
theorem dX4_seek_141 : decode cX4_seek 141 = .ok (.iconst 5, 1) := by decide +kernel
theorem dX4_seek_142 : decode cX4_seek 142 = .ok (.imul, 1) := by decide +kernel
theorem dX4_seek_143 : decode cX4_seek 143 = .ok (.iconst 4, 1) := by decide +kernel
theorem dX4_seek_144 : decode cX4_seek 144 = .ok (.iadd, 1) := by decide +kernel
theorem dX4_seek_145 : decode cX4_seek 145 = .ok (.iaload, 1) := by decide +kernel
theorem dX4_seek_146 : decode cX4_seek 146 = .ok (.iadd, 1) := by decide +kernel
theorem dX4_seek_147 : decode cX4_seek 147 = .ok (.iload_n 3, 1) := by decide +kernel
theorem dX4_seek_148 : decode cX4_seek 148 = .ok (.invokevirtual 82, 3) := by decide +kernel
theorem dX4_seek_151 : decode cX4_seek 151 = .ok (.return_, 1) := by decide +kernel
theorem dX4_keepIfLess_0 : decode cX4_keepIfLess 0 = .ok (.iload_n 1, 1) := by decide +kernel
theorem dX4_keepIfLess_1 : decode cX4_keepIfLess 1 = .ok (.aload_n 0, 1) := by decide +kernel
theorem dX4_keepIfLess_2 : decode cX4_keepIfLess 2 = .ok (.getfield 24, 3) := by decide +kernel
theorem dX4_keepIfLess_5 : decode cX4_keepIfLess 5 = .ok (.if_icmp .ge 23, 3) := by decide +kernel
theorem dX4_keepIfLess_8 : decode cX4_keepIfLess 8 = .ok (.aload_n 0, 1) := by decide +kernel
theorem dX4_keepIfLess_9 : decode cX4_keepIfLess 9 = .ok (.iload_n 1, 1) := by decide +kernel
theorem dX4_keepIfLess_10 : decode cX4_keepIfLess 10 = .ok (.putfield 24, 3) := by decide +kernel
theorem dX4_keepIfLess_13 : decode cX4_keepIfLess 13 = .ok (.aload_n 0, 1) := by decide +kernel
theorem dX4_keepIfLess_14 : decode cX4_keepIfLess 14 = .ok (.getfield 18, 3) := by decide +kernel
theorem dX4_keepIfLess_17 : decode cX4_keepIfLess 17 = .ok (.iconst 0, 1) := by decide +kernel
theorem dX4_keepIfLess_18 : decode cX4_keepIfLess 18 = .ok (.aload_n 0, 1) := by decide +kernel
theorem dX4_keepIfLess_19 : decode cX4_keepIfLess 19 = .ok (.getfield 21, 3) := by decide +kernel
theorem dX4_keepIfLess_22 : decode cX4_keepIfLess 22 = .ok (.iconst 0, 1) := by decide +kernel
theorem dX4_keepIfLess_23 : decode cX4_keepIfLess 23 = .ok (.bipush 7, 2) := by decide +kernel
theorem dX4_keepIfLess_25 : decode cX4_keepIfLess 25 = .ok (.invokestatic 98, 3) := by decide +kernel
theorem dX4_keepIfLess_28 : decode cX4_keepIfLess 28 = .ok (.return_, 1) := by decide +kernel
theorem dX5_init_0 : decode cX5_init 0 = .ok (.aload_n 0, 1) := by decide +kernel
theorem dX5_init_1 : decode cX5_init 1 = .ok (.invokespecial 3, 3) := by decide +kernel
theorem dX5_init_4 : decode cX5_init 4 = .ok (.aload_n 0, 1) := by decide +kernel
theorem dX5_init_5 : decode cX5_init 5 = .ok (.sipush 200, 3) := by decide +kernel
theorem dX5_init_8 : decode cX5_init 8 = .ok (.newarray .char, 2) := by decide +kernel
theorem dX5_init_10 : decode cX5_init 10 = .ok (.putfield 9, 3) := by decide +kernel
theorem dX5_init_13 : decode cX5_init 13 = .ok (.aload_n 0, 1) := by decide +kernel
theorem dX5_init_14 : decode cX5_init 14 = .ok (.iconst 0, 1) := by decide +kernel
theorem dX5_init_15 : decode cX5_init 15 = .ok (.putfield 15, 3) := by decide +kernel
theorem dX5_init_18 : decode cX5_init 18 = .ok (.return_, 1) := by decide +kernel
theorem dX5_append_0 : decode cX5_append 0 = .ok (.aload_n 0, 1) := by decide +kernel
theorem dX5_append_1 : decode cX5_append 1 = .ok (.getfield 15, 3) := by decide +kernel
theorem dX5_append_4 : decode cX5_append 4 = .ok (.sipush 200, 3) := by decide +kernel
theorem dX5_append_7 : decode cX5_append 7 = .ok (.if_icmp .lt 5, 3) := by decide +kernel
theorem dX5_append_10 : decode cX5_append 10 = .ok (.iconst 0, 1) := by decide +kernel
theorem dX5_append_11 : decode cX5_append 11 = .ok (.ireturn, 1) := by decide +kernel
theorem dX5_append_12 : decode cX5_append 12 = .ok (.aload_n 0, 1) := by decide +kernel
theorem dX5_append_13 : decode cX5_append 13 = .ok (.getfield 9, 3) := by decide +kernel
theorem dX5_append_16 : decode cX5_append 16 = .ok (.aload_n 0, 1) := by decide +kernel
theorem dX5_append_17 : decode cX5_append 17 = .ok (.getfield 15, 3) := by decide +kernel
theorem dX5_append_20 : decode cX5_append 20 = .ok (.iload_n 1, 1) := by decide +kernel
theorem dX5_append_21 : decode cX5_append 21 = .ok (.i2c, 1) := by decide +kernel
theorem dX5_append_22 : decode cX5_append 22 = .ok (.castore, 1) := by decide +kernel
theorem dX5_append_23 : decode cX5_append 23 = .ok (.aload_n 0, 1) := by decide +kernel
theorem dX5_append_24 : decode cX5_append 24 = .ok (.dup, 1) := by decide +kernel
theorem dX5_append_25 : decode cX5_append 25 = .ok (.getfield 15, 3) := by decide +kernel
theorem dX5_append_28 : decode cX5_append 28 = .ok (.iconst 1, 1) := by decide +kernel
theorem dX5_append_29 : decode cX5_append 29 = .ok (.iadd, 1) := by decide +kernel
theorem dX5_append_30 : decode cX5_append 30 = .ok (.putfield 15, 3) := by decide +kernel
theorem dX5_append_33 : decode cX5_append 33 = .ok (.iconst 1, 1) := by decide +kernel
theorem dX5_append_34 : decode cX5_append 34 = .ok (.ireturn, 1) := by decide +kernel
theorem dX5_letterAt_0 : decode cX5_letterAt 0 = .ok (.iload_n 1, 1) := by decide +kernel
theorem dX5_letterAt_1 : decode cX5_letterAt 1 = .ok (.ifCond .lt 20, 3) := by decide +kernel
theorem dX5_letterAt_4 : decode cX5_letterAt 4 = .ok (.iload_n 1, 1) := by decide +kernel
theorem dX5_letterAt_5 : decode cX5_letterAt 5 = .ok (.aload_n 0, 1) := by decide +kernel
theorem dX5_letterAt_6 : decode cX5_letterAt 6 = .ok (.getfield 15, 3) := by decide +kernel
theorem dX5_letterAt_9 : decode cX5_letterAt 9 = .ok (.if_icmp .ge 12, 3) := by decide +kernel
theorem dX5_letterAt_12 : decode cX5_letterAt 12 = .ok (.aload_n 0, 1) := by decide +kernel
theorem dX5_letterAt_13 : decode cX5_letterAt 13 = .ok (.getfield 9, 3) := by decide +kernel
theorem dX5_letterAt_16 : decode cX5_letterAt 16 = .ok (.iload_n 1, 1) := by decide +kernel
theorem dX5_letterAt_17 : decode cX5_letterAt 17 = .ok (.caload, 1) := by decide +kernel
theorem dX5_letterAt_18 : decode cX5_letterAt 18 = .ok (.goto 4, 3) := by decide +kernel
theorem dX5_letterAt_21 : decode cX5_letterAt 21 = .ok (.iconst 0, 1) := by decide +kernel
theorem dX5_letterAt_22 : decode cX5_letterAt 22 = .ok (.ireturn, 1) := by decide +kernel
theorem dX6_init_0 : decode cX6_init 0 = .ok (.aload_n 0, 1) := by decide +kernel
theorem dX6_init_1 : decode cX6_init 1 = .ok (.invokespecial 3, 3) := by decide +kernel
theorem dX6_init_4 : decode cX6_init 4 = .ok (.aload_n 0, 1) := by decide +kernel
theorem dX6_init_5 : decode cX6_init 5 = .ok (.iconst 0, 1) := by decide +kernel
theorem dX6_init_6 : decode cX6_init 6 = .ok (.putfield 9, 3) := by decide +kernel
theorem dX6_init_9 : decode cX6_init 9 = .ok (.aload_n 0, 1) := by decide +kernel
theorem dX6_init_10 : decode cX6_init 10 = .ok (.iconst 0, 1) := by decide +kernel
theorem dX6_init_11 : decode cX6_init 11 = .ok (.putfield 15, 3) := by decide +kernel
theorem dX6_init_14 : decode cX6_init 14 = .ok (.aload_n 0, 1) := by decide +kernel
theorem dX6_init_15 : decode cX6_init 15 = .ok (.iconst 0, 1) := by decide +kernel
theorem dX6_init_16 : decode cX6_init 16 = .ok (.putfield 18, 3) := by decide +kernel
theorem dX6_init_19 : decode cX6_init 19 = .ok (.aload_n 0, 1) := by decide +kernel
theorem dX6_init_20 : decode cX6_init 20 = .ok (.iconst 1, 1) := by decide +kernel
theorem dX6_init_21 : decode cX6_init 21 = .ok (.putfield 21, 3) := by decide +kernel
theorem dX6_init_24 : decode cX6_init 24 = .ok (.aload_n 0, 1) := by decide +kernel
theorem dX6_init_25 : decode cX6_init 25 = .ok (.bipush 12, 2) := by decide +kernel
theorem dX6_init_27 : decode cX6_init 27 = .ok (.newarray .int, 2) := by decide +kernel
theorem dX6_init_29 : decode cX6_init 29 = .ok (.putfield 24, 3) := by decide +kernel
theorem dX6_init_32 : decode cX6_init 32 = .ok (.aload_n 0, 1) := by decide +kernel
theorem dX6_init_33 : decode cX6_init 33 = .ok (.bipush 7, 2) := by decide +kernel
theorem dX6_init_35 : decode cX6_init 35 = .ok (.newarray .int, 2) := by decide +kernel
theorem dX6_init_37 : decode cX6_init 37 = .ok (.putfield 28, 3) := by decide +kernel
theorem dX6_init_40 : decode cX6_init 40 = .ok (.aload_n 0, 1) := by decide +kernel
theorem dX6_init_41 : decode cX6_init 41 = .ok (.bipush 7, 2) := by decide +kernel
theorem dX6_init_43 : decode cX6_init 43 = .ok (.newarray .int, 2) := by decide +kernel
theorem dX6_init_45 : decode cX6_init 45 = .ok (.putfield 31, 3) := by decide +kernel
theorem dX6_init_48 : decode cX6_init 48 = .ok (.aload_n 0, 1) := by decide +kernel
theorem dX6_init_49 : decode cX6_init 49 = .ok (.bipush 7, 2) := by decide +kernel
theorem dX6_init_51 : decode cX6_init 51 = .ok (.newarray .int, 2) := by decide +kernel
theorem dX6_init_53 : decode cX6_init 53 = .ok (.putfield 34, 3) := by decide +kernel
theorem dX6_init_56 : decode cX6_init 56 = .ok (.return_, 1) := by decide +kernel
theorem dX6_clear_0 : decode cX6_clear 0 = .ok (.aload_n 0, 1) := by decide +kernel
theorem dX6_clear_1 : decode cX6_clear 1 = .ok (.iconst 0, 1) := by decide +kernel
theorem dX6_clear_2 : decode cX6_clear 2 = .ok (.putfield 9, 3) := by decide +kernel
theorem dX6_clear_5 : decode cX6_clear 5 = .ok (.aload_n 0, 1) := by decide +kernel
theorem dX6_clear_6 : decode cX6_clear 6 = .ok (.iconst 0, 1) := by decide +kernel
theorem dX6_clear_7 : decode cX6_clear 7 = .ok (.putfield 15, 3) := by decide +kernel
theorem dX6_clear_10 : decode cX6_clear 10 = .ok (.aload_n 0, 1) := by decide +kernel
theorem dX6_clear_11 : decode cX6_clear 11 = .ok (.iconst 0, 1) := by decide +kernel
theorem dX6_clear_12 : decode cX6_clear 12 = .ok (.putfield 18, 3) := by decide +kernel
theorem dX6_clear_15 : decode cX6_clear 15 = .ok (.aload_n 0, 1) := by decide +kernel
theorem dX6_clear_16 : decode cX6_clear 16 = .ok (.iconst 1, 1) := by decide +kernel
theorem dX6_clear_17 : decode cX6_clear 17 = .ok (.putfield 21, 3) := by decide +kernel
theorem dX6_clear_20 : decode cX6_clear 20 = .ok (.iconst 0, 1) := by decide +kernel
theorem dX6_clear_21 : decode cX6_clear 21 = .ok (.istore_n 1, 1) := by decide +kernel
theorem dX6_clear_22 : decode cX6_clear 22 = .ok (.iload_n 1, 1) := by decide +kernel
theorem dX6_clear_23 : decode cX6_clear 23 = .ok (.aload_n 0, 1) := by decide +kernel
theorem dX6_clear_24 : decode cX6_clear 24 = .ok (.getfield 24, 3) := by decide +kernel
theorem dX6_clear_27 : decode cX6_clear 27 = .ok (.arraylength, 1) := by decide +kernel
theorem dX6_clear_28 : decode cX6_clear 28 = .ok (.if_icmp .ge 17, 3) := by decide +kernel
theorem dX6_clear_31 : decode cX6_clear 31 = .ok (.aload_n 0, 1) := by decide +kernel
theorem dX6_clear_32 : decode cX6_clear 32 = .ok (.getfield 24, 3) := by decide +kernel
theorem dX6_clear_35 : decode cX6_clear 35 = .ok (.iload_n 1, 1) := by decide +kernel
theorem dX6_clear_36 : decode cX6_clear 36 = .ok (.bipush (-4), 2) := by decide +kernel
theorem dX6_clear_38 : decode cX6_clear 38 = .ok (.iastore, 1) := by decide +kernel
theorem dX6_clear_39 : decode cX6_clear 39 = .ok (.iinc 1 1, 3) := by decide +kernel
theorem dX6_clear_42 : decode cX6_clear 42 = .ok (.goto (-20), 3) := by decide +kernel
theorem dX6_clear_45 : decode cX6_clear 45 = .ok (.return_, 1) := by decide +kernel
theorem dX6_hasLine_0 : decode cX6_hasLine 0 = .ok (.iload_n 1, 1) := by decide +kernel
theorem dX6_hasLine_1 : decode cX6_hasLine 1 = .ok (.ifCond .lt 15, 3) := by decide +kernel
theorem dX6_hasLine_4 : decode cX6_hasLine 4 = .ok (.iload_n 1, 1) := by decide +kernel
theorem dX6_hasLine_5 : decode cX6_hasLine 5 = .ok (.aload_n 0, 1) := by decide +kernel
theorem dX6_hasLine_6 : decode cX6_hasLine 6 = .ok (.getfield 9, 3) := by decide +kernel
theorem dX6_hasLine_9 : decode cX6_hasLine 9 = .ok (.if_icmp .ge 7, 3) := by decide +kernel
theorem dX6_hasLine_12 : decode cX6_hasLine 12 = .ok (.iconst 1, 1) := by decide +kernel
theorem dX6_hasLine_13 : decode cX6_hasLine 13 = .ok (.goto 4, 3) := by decide +kernel
theorem dX6_hasLine_16 : decode cX6_hasLine 16 = .ok (.iconst 0, 1) := by decide +kernel
theorem dX6_hasLine_17 : decode cX6_hasLine 17 = .ok (.ireturn, 1) := by decide +kernel
theorem dX6_hasTrack_0 : decode cX6_hasTrack 0 = .ok (.iload_n 1, 1) := by decide +kernel
theorem dX6_hasTrack_1 : decode cX6_hasTrack 1 = .ok (.ifCond .lt 15, 3) := by decide +kernel
theorem dX6_hasTrack_4 : decode cX6_hasTrack 4 = .ok (.iload_n 1, 1) := by decide +kernel
theorem dX6_hasTrack_5 : decode cX6_hasTrack 5 = .ok (.aload_n 0, 1) := by decide +kernel
theorem dX6_hasTrack_6 : decode cX6_hasTrack 6 = .ok (.getfield 15, 3) := by decide +kernel
theorem dX6_hasTrack_9 : decode cX6_hasTrack 9 = .ok (.if_icmp .ge 7, 3) := by decide +kernel
theorem dX6_hasTrack_12 : decode cX6_hasTrack 12 = .ok (.iconst 1, 1) := by decide +kernel
theorem dX6_hasTrack_13 : decode cX6_hasTrack 13 = .ok (.goto 4, 3) := by decide +kernel
theorem dX6_hasTrack_16 : decode cX6_hasTrack 16 = .ok (.iconst 0, 1) := by decide +kernel
theorem dX6_hasTrack_17 : decode cX6_hasTrack 17 = .ok (.ireturn, 1) := by decide +kernel
theorem dX6_hasTrain_0 : decode cX6_hasTrain 0 = .ok (.iload_n 1, 1) := by decide +kernel
theorem dX6_hasTrain_1 : decode cX6_hasTrain 1 = .ok (.ifCond .lt 15, 3) := by decide +kernel
theorem dX6_hasTrain_4 : decode cX6_hasTrain 4 = .ok (.iload_n 1, 1) := by decide +kernel
theorem dX6_hasTrain_5 : decode cX6_hasTrain 5 = .ok (.aload_n 0, 1) := by decide +kernel
theorem dX6_hasTrain_6 : decode cX6_hasTrain 6 = .ok (.getfield 18, 3) := by decide +kernel
theorem dX6_hasTrain_9 : decode cX6_hasTrain 9 = .ok (.if_icmp .ge 7, 3) := by decide +kernel
theorem dX6_hasTrain_12 : decode cX6_hasTrain 12 = .ok (.iconst 1, 1) := by decide +kernel
theorem dX6_hasTrain_13 : decode cX6_hasTrain 13 = .ok (.goto 4, 3) := by decide +kernel
theorem dX6_hasTrain_16 : decode cX6_hasTrain 16 = .ok (.iconst 0, 1) := by decide +kernel
theorem dX6_hasTrain_17 : decode cX6_hasTrain 17 = .ok (.ireturn, 1) := by decide +kernel
theorem dX6_switchesOf_0 : decode cX6_switchesOf 0 = .ok (.aload_n 0, 1) := by decide +kernel
theorem dX6_switchesOf_1 : decode cX6_switchesOf 1 = .ok (.getfield 24, 3) := by decide +kernel
theorem dX6_switchesOf_4 : decode cX6_switchesOf 4 = .ok (.iload_n 1, 1) := by decide +kernel
theorem dX6_switchesOf_5 : decode cX6_switchesOf 5 = .ok (.iconst 4, 1) := by decide +kernel
theorem dX6_switchesOf_6 : decode cX6_switchesOf 6 = .ok (.imul, 1) := by decide +kernel
theorem dX6_switchesOf_7 : decode cX6_switchesOf 7 = .ok (.iload_n 2, 1) := by decide +kernel
theorem dX6_switchesOf_8 : decode cX6_switchesOf 8 = .ok (.iadd, 1) := by decide +kernel
theorem dX6_switchesOf_9 : decode cX6_switchesOf 9 = .ok (.iaload, 1) := by decide +kernel
theorem dX6_switchesOf_10 : decode cX6_switchesOf 10 = .ok (.ireturn, 1) := by decide +kernel
theorem dX6_routeIn_0 : decode cX6_routeIn 0 = .ok (.aload_n 0, 1) := by decide +kernel
theorem dX6_routeIn_1 : decode cX6_routeIn 1 = .ok (.getfield 24, 3) := by decide +kernel
theorem dX6_routeIn_4 : decode cX6_routeIn 4 = .ok (.aload_n 0, 1) := by decide +kernel
theorem dX6_routeIn_5 : decode cX6_routeIn 5 = .ok (.getfield 28, 3) := by decide +kernel
theorem dX6_routeIn_8 : decode cX6_routeIn 8 = .ok (.iload_n 1, 1) := by decide +kernel
theorem dX6_routeIn_9 : decode cX6_routeIn 9 = .ok (.iaload, 1) := by decide +kernel
theorem dX6_routeIn_10 : decode cX6_routeIn 10 = .ok (.iconst 4, 1) := by decide +kernel
theorem dX6_routeIn_11 : decode cX6_routeIn 11 = .ok (.imul, 1) := by decide +kernel
theorem dX6_routeIn_12 : decode cX6_routeIn 12 = .ok (.iload_n 2, 1) := by decide +kernel
theorem dX6_routeIn_13 : decode cX6_routeIn 13 = .ok (.iadd, 1) := by decide +kernel
theorem dX6_routeIn_14 : decode cX6_routeIn 14 = .ok (.iaload, 1) := by decide +kernel
theorem dX6_routeIn_15 : decode cX6_routeIn 15 = .ok (.ireturn, 1) := by decide +kernel
theorem dX6_routeOut_0 : decode cX6_routeOut 0 = .ok (.aload_n 0, 1) := by decide +kernel
theorem dX6_routeOut_1 : decode cX6_routeOut 1 = .ok (.getfield 24, 3) := by decide +kernel
theorem dX6_routeOut_4 : decode cX6_routeOut 4 = .ok (.aload_n 0, 1) := by decide +kernel
theorem dX6_routeOut_5 : decode cX6_routeOut 5 = .ok (.getfield 31, 3) := by decide +kernel
theorem dX6_routeOut_8 : decode cX6_routeOut 8 = .ok (.iload_n 1, 1) := by decide +kernel
theorem dX6_routeOut_9 : decode cX6_routeOut 9 = .ok (.iaload, 1) := by decide +kernel
theorem dX6_routeOut_10 : decode cX6_routeOut 10 = .ok (.iconst 4, 1) := by decide +kernel
theorem dX6_routeOut_11 : decode cX6_routeOut 11 = .ok (.imul, 1) := by decide +kernel
theorem dX6_routeOut_12 : decode cX6_routeOut 12 = .ok (.iload_n 2, 1) := by decide +kernel
theorem dX6_routeOut_13 : decode cX6_routeOut 13 = .ok (.iadd, 1) := by decide +kernel
theorem dX6_routeOut_14 : decode cX6_routeOut 14 = .ok (.iaload, 1) := by decide +kernel
theorem dX6_routeOut_15 : decode cX6_routeOut 15 = .ok (.ireturn, 1) := by decide +kernel
theorem dX6_fits_0 : decode cX6_fits 0 = .ok (.aload_n 0, 1) := by decide +kernel
theorem dX6_fits_1 : decode cX6_fits 1 = .ok (.iload_n 1, 1) := by decide +kernel
theorem dX6_fits_2 : decode cX6_fits 2 = .ok (.iload_n 2, 1) := by decide +kernel
theorem dX6_fits_3 : decode cX6_fits 3 = .ok (.invokevirtual 37, 3) := by decide +kernel
theorem dX6_fits_6 : decode cX6_fits 6 = .ok (.bipush (-4), 2) := by decide +kernel
theorem dX6_fits_8 : decode cX6_fits 8 = .ok (.if_icmp .eq 18, 3) := by decide +kernel
theorem dX6_fits_11 : decode cX6_fits 11 = .ok (.aload_n 0, 1) := by decide +kernel
theorem dX6_fits_12 : decode cX6_fits 12 = .ok (.iload_n 1, 1) := by decide +kernel
theorem dX6_fits_13 : decode cX6_fits 13 = .ok (.iload_n 2, 1) := by decide +kernel
theorem dX6_fits_14 : decode cX6_fits 14 = .ok (.invokevirtual 41, 3) := by decide +kernel
theorem dX6_fits_17 : decode cX6_fits 17 = .ok (.bipush (-4), 2) := by decide +kernel
theorem dX6_fits_19 : decode cX6_fits 19 = .ok (.if_icmp .eq 7, 3) := by decide +kernel
theorem dX6_fits_22 : decode cX6_fits 22 = .ok (.iconst 1, 1) := by decide +kernel
theorem dX6_fits_23 : decode cX6_fits 23 = .ok (.goto 4, 3) := by decide +kernel
theorem dX6_fits_26 : decode cX6_fits 26 = .ok (.iconst 0, 1) := by decide +kernel
theorem dX6_fits_27 : decode cX6_fits 27 = .ok (.ireturn, 1) := by decide +kernel
theorem dX6_areCoupled_0 : decode cX6_areCoupled 0 = .ok (.aload_n 0, 1) := by decide +kernel
theorem dX6_areCoupled_1 : decode cX6_areCoupled 1 = .ok (.getfield 34, 3) := by decide +kernel
theorem dX6_areCoupled_4 : decode cX6_areCoupled 4 = .ok (.iload_n 1, 1) := by decide +kernel
theorem dX6_areCoupled_5 : decode cX6_areCoupled 5 = .ok (.iaload, 1) := by decide +kernel
theorem dX6_areCoupled_6 : decode cX6_areCoupled 6 = .ok (.iload_n 2, 1) := by decide +kernel
theorem dX6_areCoupled_7 : decode cX6_areCoupled 7 = .ok (.if_icmp .ne 7, 3) := by decide +kernel
theorem dX6_areCoupled_10 : decode cX6_areCoupled 10 = .ok (.iconst 1, 1) := by decide +kernel
theorem dX6_areCoupled_11 : decode cX6_areCoupled 11 = .ok (.goto 4, 3) := by decide +kernel
theorem dX6_areCoupled_14 : decode cX6_areCoupled 14 = .ok (.iconst 0, 1) := by decide +kernel
theorem dX6_areCoupled_15 : decode cX6_areCoupled 15 = .ok (.ireturn, 1) := by decide +kernel
theorem dX7_init_0 : decode cX7_init 0 = .ok (.aload_n 0, 1) := by decide +kernel
theorem dX7_init_1 : decode cX7_init 1 = .ok (.invokespecial 1, 3) := by decide +kernel
theorem dX7_init_4 : decode cX7_init 4 = .ok (.aload_n 0, 1) := by decide +kernel
theorem dX7_init_5 : decode cX7_init 5 = .ok (.new 7, 3) := by decide +kernel
theorem dX7_init_8 : decode cX7_init 8 = .ok (.dup, 1) := by decide +kernel
theorem dX7_init_9 : decode cX7_init 9 = .ok (.invokespecial 9, 3) := by decide +kernel
theorem dX7_init_12 : decode cX7_init 12 = .ok (.putfield 10, 3) := by decide +kernel
theorem dX7_init_15 : decode cX7_init 15 = .ok (.aload_n 0, 1) := by decide +kernel
theorem dX7_init_16 : decode cX7_init 16 = .ok (.new 16, 3) := by decide +kernel
theorem dX7_init_19 : decode cX7_init 19 = .ok (.dup, 1) := by decide +kernel
theorem dX7_init_20 : decode cX7_init 20 = .ok (.invokespecial 18, 3) := by decide +kernel
theorem dX7_init_23 : decode cX7_init 23 = .ok (.putfield 19, 3) := by decide +kernel
theorem dX7_init_26 : decode cX7_init 26 = .ok (.aload_n 0, 1) := by decide +kernel
theorem dX7_init_27 : decode cX7_init 27 = .ok (.new 23, 3) := by decide +kernel
theorem dX7_init_30 : decode cX7_init 30 = .ok (.dup, 1) := by decide +kernel
theorem dX7_init_31 : decode cX7_init 31 = .ok (.invokespecial 25, 3) := by decide +kernel
theorem dX7_init_34 : decode cX7_init 34 = .ok (.putfield 26, 3) := by decide +kernel
theorem dX7_init_37 : decode cX7_init 37 = .ok (.aload_n 0, 1) := by decide +kernel
theorem dX7_init_38 : decode cX7_init 38 = .ok (.new 30, 3) := by decide +kernel
theorem dX7_init_41 : decode cX7_init 41 = .ok (.dup, 1) := by decide +kernel
theorem dX7_init_42 : decode cX7_init 42 = .ok (.aload_n 0, 1) := by decide +kernel
theorem dX7_init_43 : decode cX7_init 43 = .ok (.getfield 10, 3) := by decide +kernel
theorem dX7_init_46 : decode cX7_init 46 = .ok (.aload_n 0, 1) := by decide +kernel
theorem dX7_init_47 : decode cX7_init 47 = .ok (.getfield 19, 3) := by decide +kernel
theorem dX7_init_50 : decode cX7_init 50 = .ok (.aload_n 0, 1) := by decide +kernel
theorem dX7_init_51 : decode cX7_init 51 = .ok (.getfield 26, 3) := by decide +kernel
theorem dX7_init_54 : decode cX7_init 54 = .ok (.invokespecial 32, 3) := by decide +kernel
theorem dX7_init_57 : decode cX7_init 57 = .ok (.putfield 35, 3) := by decide +kernel
theorem dX7_init_60 : decode cX7_init 60 = .ok (.aload_n 0, 1) := by decide +kernel
theorem dX7_init_61 : decode cX7_init 61 = .ok (.new 30, 3) := by decide +kernel
theorem dX7_init_64 : decode cX7_init 64 = .ok (.dup, 1) := by decide +kernel
theorem dX7_init_65 : decode cX7_init 65 = .ok (.aload_n 0, 1) := by decide +kernel
theorem dX7_init_66 : decode cX7_init 66 = .ok (.getfield 10, 3) := by decide +kernel
theorem dX7_init_69 : decode cX7_init 69 = .ok (.new 16, 3) := by decide +kernel
theorem dX7_init_72 : decode cX7_init 72 = .ok (.dup, 1) := by decide +kernel
theorem dX7_init_73 : decode cX7_init 73 = .ok (.invokespecial 18, 3) := by decide +kernel
theorem dX7_init_76 : decode cX7_init 76 = .ok (.new 23, 3) := by decide +kernel
theorem dX7_init_79 : decode cX7_init 79 = .ok (.dup, 1) := by decide +kernel
theorem dX7_init_80 : decode cX7_init 80 = .ok (.invokespecial 25, 3) := by decide +kernel
theorem dX7_init_83 : decode cX7_init 83 = .ok (.invokespecial 32, 3) := by decide +kernel
theorem dX7_init_86 : decode cX7_init 86 = .ok (.putfield 39, 3) := by decide +kernel
theorem dX7_init_89 : decode cX7_init 89 = .ok (.aload_n 0, 1) := by decide +kernel
theorem dX7_init_90 : decode cX7_init 90 = .ok (.new 42, 3) := by decide +kernel
theorem dX7_init_93 : decode cX7_init 93 = .ok (.dup, 1) := by decide +kernel
theorem dX7_init_94 : decode cX7_init 94 = .ok (.aload_n 0, 1) := by decide +kernel
theorem dX7_init_95 : decode cX7_init 95 = .ok (.getfield 19, 3) := by decide +kernel
theorem dX7_init_98 : decode cX7_init 98 = .ok (.aload_n 0, 1) := by decide +kernel
theorem dX7_init_99 : decode cX7_init 99 = .ok (.getfield 26, 3) := by decide +kernel
theorem dX7_init_102 : decode cX7_init 102 = .ok (.invokespecial 44, 3) := by decide +kernel
theorem dX7_init_105 : decode cX7_init 105 = .ok (.putfield 47, 3) := by decide +kernel
theorem dX7_init_108 : decode cX7_init 108 = .ok (.aload_n 0, 1) := by decide +kernel
theorem dX7_init_109 : decode cX7_init 109 = .ok (.new 51, 3) := by decide +kernel
theorem dX7_init_112 : decode cX7_init 112 = .ok (.dup, 1) := by decide +kernel
theorem dX7_init_113 : decode cX7_init 113 = .ok (.aload_n 0, 1) := by decide +kernel
theorem dX7_init_114 : decode cX7_init 114 = .ok (.getfield 19, 3) := by decide +kernel
theorem dX7_init_117 : decode cX7_init 117 = .ok (.aload_n 0, 1) := by decide +kernel
theorem dX7_init_118 : decode cX7_init 118 = .ok (.getfield 26, 3) := by decide +kernel
theorem dX7_init_121 : decode cX7_init 121 = .ok (.aload_n 0, 1) := by decide +kernel
theorem dX7_init_122 : decode cX7_init 122 = .ok (.getfield 47, 3) := by decide +kernel
theorem dX7_init_125 : decode cX7_init 125 = .ok (.invokespecial 53, 3) := by decide +kernel
theorem dX7_init_128 : decode cX7_init 128 = .ok (.putfield 56, 3) := by decide +kernel
theorem dX7_init_131 : decode cX7_init 131 = .ok (.aload_n 0, 1) := by decide +kernel
theorem dX7_init_132 : decode cX7_init 132 = .ok (.new 60, 3) := by decide +kernel
theorem dX7_init_135 : decode cX7_init 135 = .ok (.dup, 1) := by decide +kernel
theorem dX7_init_136 : decode cX7_init 136 = .ok (.invokespecial 62, 3) := by decide +kernel
theorem dX7_init_139 : decode cX7_init 139 = .ok (.putfield 63, 3) := by decide +kernel
theorem dX7_init_142 : decode cX7_init 142 = .ok (.iconst 0, 1) := by decide +kernel
theorem dX7_init_143 : decode cX7_init 143 = .ok (.istore_n 1, 1) := by decide +kernel
theorem dX7_init_144 : decode cX7_init 144 = .ok (.iload_n 1, 1) := by decide +kernel
theorem dX7_init_145 : decode cX7_init 145 = .ok (.ldc 67, 2) := by decide +kernel
theorem dX7_init_147 : decode cX7_init 147 = .ok (.invokevirtual 69, 3) := by decide +kernel
theorem dX7_init_150 : decode cX7_init 150 = .ok (.if_icmp .ge 20, 3) := by decide +kernel
theorem dX7_init_153 : decode cX7_init 153 = .ok (.aload_n 0, 1) := by decide +kernel
theorem dX7_init_154 : decode cX7_init 154 = .ok (.ldc 67, 2) := by decide +kernel
theorem dX7_init_156 : decode cX7_init 156 = .ok (.iload_n 1, 1) := by decide +kernel
theorem dX7_init_157 : decode cX7_init 157 = .ok (.invokevirtual 75, 3) := by decide +kernel
theorem dX7_init_160 : decode cX7_init 160 = .ok (.invokevirtual 79, 3) := by decide +kernel
theorem dX7_init_163 : decode cX7_init 163 = .ok (.pop, 1) := by decide +kernel
theorem dX7_init_164 : decode cX7_init 164 = .ok (.iinc 1 1, 3) := by decide +kernel
theorem dX7_init_167 : decode cX7_init 167 = .ok (.goto (-23), 3) := by decide +kernel
theorem dX7_init_170 : decode cX7_init 170 = .ok (.aload_n 0, 1) := by decide +kernel
theorem dX7_init_171 : decode cX7_init 171 = .ok (.invokevirtual 83, 3) := by decide +kernel
theorem dX7_init_174 : decode cX7_init 174 = .ok (.pop, 1) := by decide +kernel
theorem dX7_init_175 : decode cX7_init 175 = .ok (.aload_n 0, 1) := by decide +kernel
theorem dX7_init_176 : decode cX7_init 176 = .ok (.invokevirtual 86, 3) := by decide +kernel
theorem dX7_init_179 : decode cX7_init 179 = .ok (.pop, 1) := by decide +kernel
theorem dX7_init_180 : decode cX7_init 180 = .ok (.return_, 1) := by decide +kernel
theorem dX7_write_0 : decode cX7_write 0 = .ok (.iload_n 1, 1) := by decide +kernel
theorem dX7_write_1 : decode cX7_write 1 = .ok (.bipush 32, 2) := by decide +kernel
theorem dX7_write_3 : decode cX7_write 3 = .ok (.if_icmp .lt 9, 3) := by decide +kernel
theorem dX7_write_6 : decode cX7_write 6 = .ok (.iload_n 1, 1) := by decide +kernel
theorem dX7_write_7 : decode cX7_write 7 = .ok (.bipush 126, 2) := by decide +kernel
theorem dX7_write_9 : decode cX7_write 9 = .ok (.if_icmp .le 5, 3) := by decide +kernel
theorem dX7_write_12 : decode cX7_write 12 = .ok (.iconst (-1), 1) := by decide +kernel
theorem dX7_write_13 : decode cX7_write 13 = .ok (.ireturn, 1) := by decide +kernel
theorem dX7_write_14 : decode cX7_write 14 = .ok (.aload_n 0, 1) := by decide +kernel
theorem dX7_write_15 : decode cX7_write 15 = .ok (.getfield 10, 3) := by decide +kernel
theorem dX7_write_18 : decode cX7_write 18 = .ok (.iload_n 1, 1) := by decide +kernel
theorem dX7_write_19 : decode cX7_write 19 = .ok (.invokevirtual 89, 3) := by decide +kernel
theorem dX7_write_22 : decode cX7_write 22 = .ok (.ifCond .eq 13, 3) := by decide +kernel
theorem dX7_write_25 : decode cX7_write 25 = .ok (.aload_n 0, 1) := by decide +kernel
theorem dX7_write_26 : decode cX7_write 26 = .ok (.getfield 10, 3) := by decide +kernel
theorem dX7_write_29 : decode cX7_write 29 = .ok (.getfield 93, 3) := by decide +kernel
theorem dX7_write_32 : decode cX7_write 32 = .ok (.goto 5, 3) := by decide +kernel
theorem dX7_write_35 : decode cX7_write 35 = .ok (.bipush (-3), 2) := by decide +kernel
theorem dX7_write_37 : decode cX7_write 37 = .ok (.ireturn, 1) := by decide +kernel
theorem dX7_wipe_0 : decode cX7_wipe 0 = .ok (.aload_n 0, 1) := by decide +kernel
theorem dX7_wipe_1 : decode cX7_wipe 1 = .ok (.getfield 10, 3) := by decide +kernel
theorem dX7_wipe_4 : decode cX7_wipe 4 = .ok (.getfield 93, 3) := by decide +kernel
theorem dX7_wipe_7 : decode cX7_wipe 7 = .ok (.istore_n 1, 1) := by decide +kernel
theorem dX7_wipe_8 : decode cX7_wipe 8 = .ok (.aload_n 0, 1) := by decide +kernel
theorem dX7_wipe_9 : decode cX7_wipe 9 = .ok (.getfield 10, 3) := by decide +kernel
theorem dX7_wipe_12 : decode cX7_wipe 12 = .ok (.iconst 0, 1) := by decide +kernel
theorem dX7_wipe_13 : decode cX7_wipe 13 = .ok (.putfield 93, 3) := by decide +kernel
theorem dX7_wipe_16 : decode cX7_wipe 16 = .ok (.iload_n 1, 1) := by decide +kernel
theorem dX7_wipe_17 : decode cX7_wipe 17 = .ok (.ireturn, 1) := by decide +kernel
theorem dX7_fault_0 : decode cX7_fault 0 = .ok (.aload_n 0, 1) := by decide +kernel
theorem dX7_fault_1 : decode cX7_fault 1 = .ok (.getfield 39, 3) := by decide +kernel
theorem dX7_fault_4 : decode cX7_fault 4 = .ok (.invokevirtual 96, 3) := by decide +kernel
theorem dX7_fault_7 : decode cX7_fault 7 = .ok (.ireturn, 1) := by decide +kernel
theorem dX7_lay_0 : decode cX7_lay 0 = .ok (.aload_n 0, 1) := by decide +kernel
theorem dX7_lay_1 : decode cX7_lay 1 = .ok (.getfield 39, 3) := by decide +kernel
theorem dX7_lay_4 : decode cX7_lay 4 = .ok (.invokevirtual 96, 3) := by decide +kernel
theorem dX7_lay_7 : decode cX7_lay 7 = .ok (.bipush (-4), 2) := by decide +kernel
theorem dX7_lay_9 : decode cX7_lay 9 = .ok (.if_icmp .ne 16, 3) := by decide +kernel
theorem dX7_lay_12 : decode cX7_lay 12 = .ok (.aload_n 0, 1) := by decide +kernel
theorem dX7_lay_13 : decode cX7_lay 13 = .ok (.getfield 39, 3) := by decide +kernel
theorem dX7_lay_16 : decode cX7_lay 16 = .ok (.getfield 99, 3) := by decide +kernel
theorem dX7_lay_19 : decode cX7_lay 19 = .ok (.getfield 100, 3) := by decide +kernel
theorem dX7_lay_22 : decode cX7_lay 22 = .ok (.ifCond .ne 6, 3) := by decide +kernel
theorem dX7_lay_25 : decode cX7_lay 25 = .ok (.bipush (-2), 2) := by decide +kernel
theorem dX7_lay_27 : decode cX7_lay 27 = .ok (.ireturn, 1) := by decide +kernel
theorem dX7_lay_28 : decode cX7_lay 28 = .ok (.aload_n 0, 1) := by decide +kernel
theorem dX7_lay_29 : decode cX7_lay 29 = .ok (.getfield 35, 3) := by decide +kernel
theorem dX7_lay_32 : decode cX7_lay 32 = .ok (.invokevirtual 96, 3) := by decide +kernel
theorem dX7_lay_35 : decode cX7_lay 35 = .ok (.pop, 1) := by decide +kernel
theorem dX7_lay_36 : decode cX7_lay 36 = .ok (.aload_n 0, 1) := by decide +kernel
theorem dX7_lay_37 : decode cX7_lay 37 = .ok (.getfield 47, 3) := by decide +kernel
theorem dX7_lay_40 : decode cX7_lay 40 = .ok (.invokevirtual 103, 3) := by decide +kernel
theorem dX7_lay_43 : decode cX7_lay 43 = .ok (.aload_n 0, 1) := by decide +kernel
theorem dX7_lay_44 : decode cX7_lay 44 = .ok (.getfield 63, 3) := by decide +kernel
theorem dX7_lay_47 : decode cX7_lay 47 = .ok (.iconst 0, 1) := by decide +kernel
theorem dX7_lay_48 : decode cX7_lay 48 = .ok (.putfield 106, 3) := by decide +kernel
theorem dX7_lay_51 : decode cX7_lay 51 = .ok (.aload_n 0, 1) := by decide +kernel
theorem dX7_lay_52 : decode cX7_lay 52 = .ok (.getfield 19, 3) := by decide +kernel
theorem dX7_lay_55 : decode cX7_lay 55 = .ok (.getfield 109, 3) := by decide +kernel
theorem dX7_lay_58 : decode cX7_lay 58 = .ok (.ireturn, 1) := by decide +kernel
theorem dX7_route_0 : decode cX7_route 0 = .ok (.aload_n 0, 1) := by decide +kernel
theorem dX7_route_1 : decode cX7_route 1 = .ok (.getfield 19, 3) := by decide +kernel
theorem dX7_route_4 : decode cX7_route 4 = .ok (.iload_n 1, 1) := by decide +kernel
theorem dX7_route_5 : decode cX7_route 5 = .ok (.invokevirtual 112, 3) := by decide +kernel
theorem dX7_route_8 : decode cX7_route 8 = .ok (.ifCond .eq 14, 3) := by decide +kernel
theorem dX7_route_11 : decode cX7_route 11 = .ok (.aload_n 0, 1) := by decide +kernel
theorem dX7_route_12 : decode cX7_route 12 = .ok (.getfield 19, 3) := by decide +kernel
theorem dX7_route_15 : decode cX7_route 15 = .ok (.iload_n 2, 1) := by decide +kernel
theorem dX7_route_16 : decode cX7_route 16 = .ok (.invokevirtual 115, 3) := by decide +kernel
theorem dX7_route_19 : decode cX7_route 19 = .ok (.ifCond .ne 5, 3) := by decide +kernel
theorem dX7_route_22 : decode cX7_route 22 = .ok (.iconst (-1), 1) := by decide +kernel
theorem dX7_route_23 : decode cX7_route 23 = .ok (.ireturn, 1) := by decide +kernel
theorem dX7_route_24 : decode cX7_route 24 = .ok (.aload_n 0, 1) := by decide +kernel
theorem dX7_route_25 : decode cX7_route 25 = .ok (.getfield 19, 3) := by decide +kernel
theorem dX7_route_28 : decode cX7_route 28 = .ok (.iload_n 1, 1) := by decide +kernel
theorem dX7_route_29 : decode cX7_route 29 = .ok (.iload_n 2, 1) := by decide +kernel
theorem dX7_route_30 : decode cX7_route 30 = .ok (.invokevirtual 118, 3) := by decide +kernel
theorem dX7_route_33 : decode cX7_route 33 = .ok (.ireturn, 1) := by decide +kernel
theorem dX7_train_0 : decode cX7_train 0 = .ok (.aload_n 0, 1) := by decide +kernel
theorem dX7_train_1 : decode cX7_train 1 = .ok (.getfield 19, 3) := by decide +kernel
theorem dX7_train_4 : decode cX7_train 4 = .ok (.iload_n 1, 1) := by decide +kernel
theorem dX7_train_5 : decode cX7_train 5 = .ok (.invokevirtual 122, 3) := by decide +kernel
theorem dX7_train_8 : decode cX7_train 8 = .ok (.ifCond .ne 5, 3) := by decide +kernel
theorem dX7_train_11 : decode cX7_train 11 = .ok (.iconst (-1), 1) := by decide +kernel
theorem dX7_train_12 : decode cX7_train 12 = .ok (.ireturn, 1) := by decide +kernel
theorem dX7_train_13 : decode cX7_train 13 = .ok (.iload_n 2, 1) := by decide +kernel
theorem dX7_train_14 : decode cX7_train 14 = .ok (.tableswitch 154 0 8 #[50, 60, 70, 80, 90, 119, 129, 139, 145], 50) := by decide +kernel
theorem dX7_train_64 : decode cX7_train 64 = .ok (.aload_n 0, 1) := by decide +kernel
theorem dX7_train_65 : decode cX7_train 65 = .ok (.getfield 19, 3) := by decide +kernel
theorem dX7_train_68 : decode cX7_train 68 = .ok (.getfield 125, 3) := by decide +kernel
theorem dX7_train_71 : decode cX7_train 71 = .ok (.iload_n 1, 1) := by decide +kernel
theorem dX7_train_72 : decode cX7_train 72 = .ok (.iaload, 1) := by decide +kernel
theorem dX7_train_73 : decode cX7_train 73 = .ok (.ireturn, 1) := by decide +kernel
theorem dX7_train_74 : decode cX7_train 74 = .ok (.aload_n 0, 1) := by decide +kernel
theorem dX7_train_75 : decode cX7_train 75 = .ok (.getfield 19, 3) := by decide +kernel
theorem dX7_train_78 : decode cX7_train 78 = .ok (.getfield 129, 3) := by decide +kernel
theorem dX7_train_81 : decode cX7_train 81 = .ok (.iload_n 1, 1) := by decide +kernel
theorem dX7_train_82 : decode cX7_train 82 = .ok (.iaload, 1) := by decide +kernel
theorem dX7_train_83 : decode cX7_train 83 = .ok (.ireturn, 1) := by decide +kernel
theorem dX7_train_84 : decode cX7_train 84 = .ok (.aload_n 0, 1) := by decide +kernel
theorem dX7_train_85 : decode cX7_train 85 = .ok (.getfield 26, 3) := by decide +kernel
theorem dX7_train_88 : decode cX7_train 88 = .ok (.getfield 132, 3) := by decide +kernel
theorem dX7_train_91 : decode cX7_train 91 = .ok (.iload_n 1, 1) := by decide +kernel
theorem dX7_train_92 : decode cX7_train 92 = .ok (.iaload, 1) := by decide +kernel
theorem dX7_train_93 : decode cX7_train 93 = .ok (.ireturn, 1) := by decide +kernel
theorem dX7_train_94 : decode cX7_train 94 = .ok (.aload_n 0, 1) := by decide +kernel
theorem dX7_train_95 : decode cX7_train 95 = .ok (.getfield 26, 3) := by decide +kernel
theorem dX7_train_98 : decode cX7_train 98 = .ok (.getfield 135, 3) := by decide +kernel
theorem dX7_train_101 : decode cX7_train 101 = .ok (.iload_n 1, 1) := by decide +kernel
theorem dX7_train_102 : decode cX7_train 102 = .ok (.iaload, 1) := by decide +kernel
theorem dX7_train_103 : decode cX7_train 103 = .ok (.ireturn, 1) := by decide +kernel
theorem dX7_train_104 : decode cX7_train 104 = .ok (.aload_n 0, 1) := by decide +kernel
theorem dX7_train_105 : decode cX7_train 105 = .ok (.getfield 26, 3) := by decide +kernel
theorem dX7_train_108 : decode cX7_train 108 = .ok (.getfield 138, 3) := by decide +kernel
theorem dX7_train_111 : decode cX7_train 111 = .ok (.iload_n 1, 1) := by decide +kernel
theorem dX7_train_112 : decode cX7_train 112 = .ok (.iaload, 1) := by decide +kernel
theorem dX7_train_113 : decode cX7_train 113 = .ok (.bipush 9, 2) := by decide +kernel
theorem dX7_train_115 : decode cX7_train 115 = .ok (.if_icmp .ne 8, 3) := by decide +kernel
theorem dX7_train_118 : decode cX7_train 118 = .ok (.bipush (-4), 2) := by decide +kernel
theorem dX7_train_120 : decode cX7_train 120 = .ok (.goto 12, 3) := by decide +kernel
theorem dX7_train_123 : decode cX7_train 123 = .ok (.aload_n 0, 1) := by decide +kernel
theorem dX7_train_124 : decode cX7_train 124 = .ok (.getfield 26, 3) := by decide +kernel
theorem dX7_train_127 : decode cX7_train 127 = .ok (.getfield 138, 3) := by decide +kernel
theorem dX7_train_130 : decode cX7_train 130 = .ok (.iload_n 1, 1) := by decide +kernel
theorem dX7_train_131 : decode cX7_train 131 = .ok (.iaload, 1) := by decide +kernel
theorem dX7_train_132 : decode cX7_train 132 = .ok (.ireturn, 1) := by decide +kernel
theorem dX7_train_133 : decode cX7_train 133 = .ok (.aload_n 0, 1) := by decide +kernel
theorem dX7_train_134 : decode cX7_train 134 = .ok (.getfield 19, 3) := by decide +kernel
theorem dX7_train_137 : decode cX7_train 137 = .ok (.getfield 141, 3) := by decide +kernel
theorem dX7_train_140 : decode cX7_train 140 = .ok (.iload_n 1, 1) := by decide +kernel
theorem dX7_train_141 : decode cX7_train 141 = .ok (.iaload, 1) := by decide +kernel
theorem dX7_train_142 : decode cX7_train 142 = .ok (.ireturn, 1) := by decide +kernel
theorem dX7_train_143 : decode cX7_train 143 = .ok (.aload_n 0, 1) := by decide +kernel
theorem dX7_train_144 : decode cX7_train 144 = .ok (.getfield 26, 3) := by decide +kernel
theorem dX7_train_147 : decode cX7_train 147 = .ok (.getfield 144, 3) := by decide +kernel
theorem dX7_train_150 : decode cX7_train 150 = .ok (.iload_n 1, 1) := by decide +kernel
theorem dX7_train_151 : decode cX7_train 151 = .ok (.iaload, 1) := by decide +kernel
theorem dX7_train_152 : decode cX7_train 152 = .ok (.ireturn, 1) := by decide +kernel
theorem dX7_train_153 : decode cX7_train 153 = .ok (.aload_n 0, 1) := by decide +kernel
theorem dX7_train_154 : decode cX7_train 154 = .ok (.iload_n 1, 1) := by decide +kernel
theorem dX7_train_155 : decode cX7_train 155 = .ok (.invokevirtual 147, 3) := by decide +kernel
theorem dX7_train_158 : decode cX7_train 158 = .ok (.ireturn, 1) := by decide +kernel
theorem dX7_train_159 : decode cX7_train 159 = .ok (.aload_n 0, 1) := by decide +kernel
theorem dX7_train_160 : decode cX7_train 160 = .ok (.getfield 47, 3) := by decide +kernel
theorem dX7_train_163 : decode cX7_train 163 = .ok (.iload_n 1, 1) := by decide +kernel
theorem dX7_train_164 : decode cX7_train 164 = .ok (.invokevirtual 150, 3) := by decide +kernel
theorem dX7_train_167 : decode cX7_train 167 = .ok (.ireturn, 1) := by decide +kernel
theorem dX7_train_168 : decode cX7_train 168 = .ok (.iconst (-1), 1) := by decide +kernel
theorem dX7_train_169 : decode cX7_train 169 = .ok (.ireturn, 1) := by decide +kernel
theorem dX7_fittingTracks_0 : decode cX7_fittingTracks 0 = .ok (.iconst 0, 1) := by decide +kernel
theorem dX7_fittingTracks_1 : decode cX7_fittingTracks 1 = .ok (.istore_n 2, 1) := by decide +kernel
theorem dX7_fittingTracks_2 : decode cX7_fittingTracks 2 = .ok (.iconst 0, 1) := by decide +kernel
theorem dX7_fittingTracks_3 : decode cX7_fittingTracks 3 = .ok (.istore_n 3, 1) := by decide +kernel
theorem dX7_fittingTracks_4 : decode cX7_fittingTracks 4 = .ok (.iload_n 3, 1) := by decide +kernel
theorem dX7_fittingTracks_5 : decode cX7_fittingTracks 5 = .ok (.aload_n 0, 1) := by decide +kernel
theorem dX7_fittingTracks_6 : decode cX7_fittingTracks 6 = .ok (.getfield 19, 3) := by decide +kernel
theorem dX7_fittingTracks_9 : decode cX7_fittingTracks 9 = .ok (.getfield 153, 3) := by decide +kernel
theorem dX7_fittingTracks_12 : decode cX7_fittingTracks 12 = .ok (.if_icmp .ge 27, 3) := by decide +kernel
theorem dX7_fittingTracks_15 : decode cX7_fittingTracks 15 = .ok (.aload_n 0, 1) := by decide +kernel
theorem dX7_fittingTracks_16 : decode cX7_fittingTracks 16 = .ok (.getfield 19, 3) := by decide +kernel
theorem dX7_fittingTracks_19 : decode cX7_fittingTracks 19 = .ok (.iload_n 1, 1) := by decide +kernel
theorem dX7_fittingTracks_20 : decode cX7_fittingTracks 20 = .ok (.iload_n 3, 1) := by decide +kernel
theorem dX7_fittingTracks_21 : decode cX7_fittingTracks 21 = .ok (.invokevirtual 156, 3) := by decide +kernel
theorem dX7_fittingTracks_24 : decode cX7_fittingTracks 24 = .ok (.ifCond .eq 9, 3) := by decide +kernel
theorem dX7_fittingTracks_27 : decode cX7_fittingTracks 27 = .ok (.iload_n 2, 1) := by decide +kernel
theorem dX7_fittingTracks_28 : decode cX7_fittingTracks 28 = .ok (.iconst 1, 1) := by decide +kernel
theorem dX7_fittingTracks_29 : decode cX7_fittingTracks 29 = .ok (.iload_n 3, 1) := by decide +kernel
theorem dX7_fittingTracks_30 : decode cX7_fittingTracks 30 = .ok (.ishl, 1) := by decide +kernel
theorem dX7_fittingTracks_31 : decode cX7_fittingTracks 31 = .ok (.ior, 1) := by decide +kernel
theorem dX7_fittingTracks_32 : decode cX7_fittingTracks 32 = .ok (.istore_n 2, 1) := by decide +kernel
theorem dX7_fittingTracks_33 : decode cX7_fittingTracks 33 = .ok (.iinc 3 1, 3) := by decide +kernel
theorem dX7_fittingTracks_36 : decode cX7_fittingTracks 36 = .ok (.goto (-32), 3) := by decide +kernel
theorem dX7_fittingTracks_39 : decode cX7_fittingTracks 39 = .ok (.iload_n 2, 1) := by decide +kernel
theorem dX7_fittingTracks_40 : decode cX7_fittingTracks 40 = .ok (.ireturn, 1) := by decide +kernel
theorem dX7_give_0 : decode cX7_give 0 = .ok (.aload_n 0, 1) := by decide +kernel
theorem dX7_give_1 : decode cX7_give 1 = .ok (.getfield 19, 3) := by decide +kernel
theorem dX7_give_4 : decode cX7_give 4 = .ok (.iload_n 1, 1) := by decide +kernel
theorem dX7_give_5 : decode cX7_give 5 = .ok (.invokevirtual 122, 3) := by decide +kernel
theorem dX7_give_8 : decode cX7_give 8 = .ok (.ifCond .eq 14, 3) := by decide +kernel
theorem dX7_give_11 : decode cX7_give 11 = .ok (.aload_n 0, 1) := by decide +kernel
theorem dX7_give_12 : decode cX7_give 12 = .ok (.getfield 19, 3) := by decide +kernel
theorem dX7_give_15 : decode cX7_give 15 = .ok (.iload_n 2, 1) := by decide +kernel
theorem dX7_give_16 : decode cX7_give 16 = .ok (.invokevirtual 115, 3) := by decide +kernel
theorem dX7_give_19 : decode cX7_give 19 = .ok (.ifCond .ne 5, 3) := by decide +kernel
theorem dX7_give_22 : decode cX7_give 22 = .ok (.iconst (-1), 1) := by decide +kernel
theorem dX7_give_23 : decode cX7_give 23 = .ok (.ireturn, 1) := by decide +kernel
theorem dX7_give_24 : decode cX7_give 24 = .ok (.aload_n 0, 1) := by decide +kernel
theorem dX7_give_25 : decode cX7_give 25 = .ok (.getfield 26, 3) := by decide +kernel
theorem dX7_give_28 : decode cX7_give 28 = .ok (.getfield 144, 3) := by decide +kernel
theorem dX7_give_31 : decode cX7_give 31 = .ok (.iload_n 1, 1) := by decide +kernel
theorem dX7_give_32 : decode cX7_give 32 = .ok (.iaload, 1) := by decide +kernel
theorem dX7_give_33 : decode cX7_give 33 = .ok (.bipush (-4), 2) := by decide +kernel
theorem dX7_give_35 : decode cX7_give 35 = .ok (.if_icmp .ne 15, 3) := by decide +kernel
theorem dX7_give_38 : decode cX7_give 38 = .ok (.aload_n 0, 1) := by decide +kernel
theorem dX7_give_39 : decode cX7_give 39 = .ok (.getfield 47, 3) := by decide +kernel
theorem dX7_give_42 : decode cX7_give 42 = .ok (.iload_n 1, 1) := by decide +kernel
theorem dX7_give_43 : decode cX7_give 43 = .ok (.iload_n 2, 1) := by decide +kernel
theorem dX7_give_44 : decode cX7_give 44 = .ok (.invokevirtual 160, 3) := by decide +kernel
theorem dX7_give_47 : decode cX7_give 47 = .ok (.ifCond .ne 6, 3) := by decide +kernel
theorem dX7_give_50 : decode cX7_give 50 = .ok (.bipush (-2), 2) := by decide +kernel
theorem dX7_give_52 : decode cX7_give 52 = .ok (.ireturn, 1) := by decide +kernel
theorem dX7_give_53 : decode cX7_give 53 = .ok (.aload_n 0, 1) := by decide +kernel
theorem dX7_give_54 : decode cX7_give 54 = .ok (.getfield 63, 3) := by decide +kernel
theorem dX7_give_57 : decode cX7_give 57 = .ok (.aload_n 0, 1) := by decide +kernel
theorem dX7_give_58 : decode cX7_give 58 = .ok (.getfield 26, 3) := by decide +kernel
theorem dX7_give_61 : decode cX7_give 61 = .ok (.invokevirtual 163, 3) := by decide +kernel
theorem dX7_give_64 : decode cX7_give 64 = .ok (.aload_n 0, 1) := by decide +kernel
theorem dX7_give_65 : decode cX7_give 65 = .ok (.getfield 26, 3) := by decide +kernel
theorem dX7_give_68 : decode cX7_give 68 = .ok (.getfield 144, 3) := by decide +kernel
theorem dX7_give_71 : decode cX7_give 71 = .ok (.iload_n 1, 1) := by decide +kernel
theorem dX7_give_72 : decode cX7_give 72 = .ok (.iload_n 2, 1) := by decide +kernel
theorem dX7_give_73 : decode cX7_give 73 = .ok (.iastore, 1) := by decide +kernel
theorem dX7_give_74 : decode cX7_give 74 = .ok (.aload_n 0, 1) := by decide +kernel
theorem dX7_give_75 : decode cX7_give 75 = .ok (.invokevirtual 167, 3) := by decide +kernel
theorem dX7_give_78 : decode cX7_give 78 = .ok (.ireturn, 1) := by decide +kernel
theorem dX7_take_0 : decode cX7_take 0 = .ok (.aload_n 0, 1) := by decide +kernel
theorem dX7_take_1 : decode cX7_take 1 = .ok (.getfield 19, 3) := by decide +kernel
theorem dX7_take_4 : decode cX7_take 4 = .ok (.iload_n 1, 1) := by decide +kernel
theorem dX7_take_5 : decode cX7_take 5 = .ok (.invokevirtual 122, 3) := by decide +kernel
theorem dX7_take_8 : decode cX7_take 8 = .ok (.ifCond .ne 5, 3) := by decide +kernel
theorem dX7_take_11 : decode cX7_take 11 = .ok (.iconst (-1), 1) := by decide +kernel
theorem dX7_take_12 : decode cX7_take 12 = .ok (.ireturn, 1) := by decide +kernel
theorem dX7_take_13 : decode cX7_take 13 = .ok (.aload_n 0, 1) := by decide +kernel
theorem dX7_take_14 : decode cX7_take 14 = .ok (.getfield 26, 3) := by decide +kernel
theorem dX7_take_17 : decode cX7_take 17 = .ok (.getfield 144, 3) := by decide +kernel
theorem dX7_take_20 : decode cX7_take 20 = .ok (.iload_n 1, 1) := by decide +kernel
theorem dX7_take_21 : decode cX7_take 21 = .ok (.iaload, 1) := by decide +kernel
theorem dX7_take_22 : decode cX7_take 22 = .ok (.istore_n 2, 1) := by decide +kernel
theorem dX7_take_23 : decode cX7_take 23 = .ok (.iload_n 2, 1) := by decide +kernel
theorem dX7_take_24 : decode cX7_take 24 = .ok (.bipush (-4), 2) := by decide +kernel
theorem dX7_take_26 : decode cX7_take 26 = .ok (.if_icmp .ne 6, 3) := by decide +kernel
theorem dX7_take_29 : decode cX7_take 29 = .ok (.bipush (-2), 2) := by decide +kernel
theorem dX7_take_31 : decode cX7_take 31 = .ok (.ireturn, 1) := by decide +kernel
theorem dX7_take_32 : decode cX7_take 32 = .ok (.aload_n 0, 1) := by decide +kernel
theorem dX7_take_33 : decode cX7_take 33 = .ok (.getfield 63, 3) := by decide +kernel
theorem dX7_take_36 : decode cX7_take 36 = .ok (.aload_n 0, 1) := by decide +kernel
theorem dX7_take_37 : decode cX7_take 37 = .ok (.getfield 26, 3) := by decide +kernel
theorem dX7_take_40 : decode cX7_take 40 = .ok (.invokevirtual 163, 3) := by decide +kernel
theorem dX7_take_43 : decode cX7_take 43 = .ok (.aload_n 0, 1) := by decide +kernel
theorem dX7_take_44 : decode cX7_take 44 = .ok (.getfield 26, 3) := by decide +kernel
theorem dX7_take_47 : decode cX7_take 47 = .ok (.getfield 144, 3) := by decide +kernel
theorem dX7_take_50 : decode cX7_take 50 = .ok (.iload_n 1, 1) := by decide +kernel
theorem dX7_take_51 : decode cX7_take 51 = .ok (.bipush (-4), 2) := by decide +kernel
theorem dX7_take_53 : decode cX7_take 53 = .ok (.iastore, 1) := by decide +kernel
theorem dX7_take_54 : decode cX7_take 54 = .ok (.iload_n 2, 1) := by decide +kernel
theorem dX7_take_55 : decode cX7_take 55 = .ok (.ireturn, 1) := by decide +kernel
theorem dX7_why_0 : decode cX7_why 0 = .ok (.aload_n 0, 1) := by decide +kernel
theorem dX7_why_1 : decode cX7_why 1 = .ok (.getfield 19, 3) := by decide +kernel
theorem dX7_why_4 : decode cX7_why 4 = .ok (.iload_n 1, 1) := by decide +kernel
theorem dX7_why_5 : decode cX7_why 5 = .ok (.invokevirtual 122, 3) := by decide +kernel
theorem dX7_why_8 : decode cX7_why 8 = .ok (.ifCond .eq 14, 3) := by decide +kernel
theorem dX7_why_11 : decode cX7_why 11 = .ok (.aload_n 0, 1) := by decide +kernel
theorem dX7_why_12 : decode cX7_why 12 = .ok (.getfield 19, 3) := by decide +kernel
theorem dX7_why_15 : decode cX7_why 15 = .ok (.iload_n 2, 1) := by decide +kernel
theorem dX7_why_16 : decode cX7_why 16 = .ok (.invokevirtual 115, 3) := by decide +kernel
theorem dX7_why_19 : decode cX7_why 19 = .ok (.ifCond .ne 5, 3) := by decide +kernel
theorem dX7_why_22 : decode cX7_why 22 = .ok (.iconst (-1), 1) := by decide +kernel
theorem dX7_why_23 : decode cX7_why 23 = .ok (.ireturn, 1) := by decide +kernel
theorem dX7_why_24 : decode cX7_why 24 = .ok (.aload_n 0, 1) := by decide +kernel
theorem dX7_why_25 : decode cX7_why 25 = .ok (.getfield 19, 3) := by decide +kernel
theorem dX7_why_28 : decode cX7_why 28 = .ok (.iload_n 1, 1) := by decide +kernel
theorem dX7_why_29 : decode cX7_why 29 = .ok (.iload_n 2, 1) := by decide +kernel
theorem dX7_why_30 : decode cX7_why 30 = .ok (.invokevirtual 170, 3) := by decide +kernel
theorem dX7_why_33 : decode cX7_why 33 = .ok (.bipush (-4), 2) := by decide +kernel
theorem dX7_why_35 : decode cX7_why 35 = .ok (.if_icmp .ne 5, 3) := by decide +kernel
theorem dX7_why_38 : decode cX7_why 38 = .ok (.iconst 1, 1) := by decide +kernel
theorem dX7_why_39 : decode cX7_why 39 = .ok (.ireturn, 1) := by decide +kernel
theorem dX7_why_40 : decode cX7_why 40 = .ok (.aload_n 0, 1) := by decide +kernel
theorem dX7_why_41 : decode cX7_why 41 = .ok (.getfield 19, 3) := by decide +kernel
theorem dX7_why_44 : decode cX7_why 44 = .ok (.iload_n 1, 1) := by decide +kernel
theorem dX7_why_45 : decode cX7_why 45 = .ok (.iload_n 2, 1) := by decide +kernel
theorem dX7_why_46 : decode cX7_why 46 = .ok (.invokevirtual 173, 3) := by decide +kernel
theorem dX7_why_49 : decode cX7_why 49 = .ok (.bipush (-4), 2) := by decide +kernel
theorem dX7_why_51 : decode cX7_why 51 = .ok (.if_icmp .ne 5, 3) := by decide +kernel
theorem dX7_why_54 : decode cX7_why 54 = .ok (.iconst 2, 1) := by decide +kernel
theorem dX7_why_55 : decode cX7_why 55 = .ok (.ireturn, 1) := by decide +kernel
theorem dX7_why_56 : decode cX7_why 56 = .ok (.aload_n 0, 1) := by decide +kernel
theorem dX7_why_57 : decode cX7_why 57 = .ok (.getfield 47, 3) := by decide +kernel
theorem dX7_why_60 : decode cX7_why 60 = .ok (.iload_n 1, 1) := by decide +kernel
theorem dX7_why_61 : decode cX7_why 61 = .ok (.iload_n 2, 1) := by decide +kernel
theorem dX7_why_62 : decode cX7_why 62 = .ok (.invokevirtual 176, 3) := by decide +kernel
theorem dX7_why_65 : decode cX7_why 65 = .ok (.istore_n 3, 1) := by decide +kernel
theorem dX7_why_66 : decode cX7_why 66 = .ok (.iload_n 3, 1) := by decide +kernel
theorem dX7_why_67 : decode cX7_why 67 = .ok (.bipush (-4), 2) := by decide +kernel
theorem dX7_why_69 : decode cX7_why 69 = .ok (.if_icmp .ne 7, 3) := by decide +kernel
theorem dX7_why_72 : decode cX7_why 72 = .ok (.iconst 0, 1) := by decide +kernel
theorem dX7_why_73 : decode cX7_why 73 = .ok (.goto 6, 3) := by decide +kernel
theorem dX7_why_76 : decode cX7_why 76 = .ok (.iconst 3, 1) := by decide +kernel
theorem dX7_why_77 : decode cX7_why 77 = .ok (.iload_n 3, 1) := by decide +kernel
theorem dX7_why_78 : decode cX7_why 78 = .ok (.iadd, 1) := by decide +kernel
theorem dX7_why_79 : decode cX7_why 79 = .ok (.ireturn, 1) := by decide +kernel
theorem dX7_clash_0 : decode cX7_clash 0 = .ok (.aload_n 0, 1) := by decide +kernel
theorem dX7_clash_1 : decode cX7_clash 1 = .ok (.getfield 19, 3) := by decide +kernel
theorem dX7_clash_4 : decode cX7_clash 4 = .ok (.iload_n 1, 1) := by decide +kernel
theorem dX7_clash_5 : decode cX7_clash 5 = .ok (.invokevirtual 122, 3) := by decide +kernel
theorem dX7_clash_8 : decode cX7_clash 8 = .ok (.ifCond .eq 19, 3) := by decide +kernel
theorem dX7_clash_11 : decode cX7_clash 11 = .ok (.aload_n 0, 1) := by decide +kernel
theorem dX7_clash_12 : decode cX7_clash 12 = .ok (.getfield 19, 3) := by decide +kernel
theorem dX7_clash_15 : decode cX7_clash 15 = .ok (.iload_n 3, 1) := by decide +kernel
theorem dX7_clash_16 : decode cX7_clash 16 = .ok (.invokevirtual 122, 3) := by decide +kernel
theorem dX7_clash_19 : decode cX7_clash 19 = .ok (.ifCond .eq 8, 3) := by decide +kernel
theorem dX7_clash_22 : decode cX7_clash 22 = .ok (.iload_n 1, 1) := by decide +kernel
theorem dX7_clash_23 : decode cX7_clash 23 = .ok (.iload_n 3, 1) := by decide +kernel
theorem dX7_clash_24 : decode cX7_clash 24 = .ok (.if_icmp .ne 5, 3) := by decide +kernel
theorem dX7_clash_27 : decode cX7_clash 27 = .ok (.iconst (-1), 1) := by decide +kernel
theorem dX7_clash_28 : decode cX7_clash 28 = .ok (.ireturn, 1) := by decide +kernel
theorem dX7_clash_29 : decode cX7_clash 29 = .ok (.aload_n 0, 1) := by decide +kernel
theorem dX7_clash_30 : decode cX7_clash 30 = .ok (.getfield 19, 3) := by decide +kernel
theorem dX7_clash_33 : decode cX7_clash 33 = .ok (.iload_n 2, 1) := by decide +kernel
theorem dX7_clash_34 : decode cX7_clash 34 = .ok (.invokevirtual 115, 3) := by decide +kernel
theorem dX7_clash_37 : decode cX7_clash 37 = .ok (.ifCond .eq 15, 3) := by decide +kernel
theorem dX7_clash_40 : decode cX7_clash 40 = .ok (.aload_n 0, 1) := by decide +kernel
theorem dX7_clash_41 : decode cX7_clash 41 = .ok (.getfield 19, 3) := by decide +kernel
theorem dX7_clash_44 : decode cX7_clash 44 = .ok (.iload 4, 2) := by decide +kernel
theorem dX7_clash_46 : decode cX7_clash 46 = .ok (.invokevirtual 115, 3) := by decide +kernel
theorem dX7_clash_49 : decode cX7_clash 49 = .ok (.ifCond .ne 5, 3) := by decide +kernel
theorem dX7_clash_52 : decode cX7_clash 52 = .ok (.iconst (-1), 1) := by decide +kernel
theorem dX7_clash_53 : decode cX7_clash 53 = .ok (.ireturn, 1) := by decide +kernel
theorem dX7_clash_54 : decode cX7_clash 54 = .ok (.aload_n 0, 1) := by decide +kernel
theorem dX7_clash_55 : decode cX7_clash 55 = .ok (.getfield 47, 3) := by decide +kernel
theorem dX7_clash_58 : decode cX7_clash 58 = .ok (.iload_n 1, 1) := by decide +kernel
theorem dX7_clash_59 : decode cX7_clash 59 = .ok (.iload_n 2, 1) := by decide +kernel
theorem dX7_clash_60 : decode cX7_clash 60 = .ok (.iload_n 3, 1) := by decide +kernel
theorem dX7_clash_61 : decode cX7_clash 61 = .ok (.iload 4, 2) := by decide +kernel
theorem dX7_clash_63 : decode cX7_clash 63 = .ok (.invokevirtual 179, 3) := by decide +kernel
theorem dX7_clash_66 : decode cX7_clash 66 = .ok (.ireturn, 1) := by decide +kernel
theorem dX7_late_0 : decode cX7_late 0 = .ok (.aload_n 0, 1) := by decide +kernel
theorem dX7_late_1 : decode cX7_late 1 = .ok (.getfield 19, 3) := by decide +kernel
theorem dX7_late_4 : decode cX7_late 4 = .ok (.iload_n 1, 1) := by decide +kernel
theorem dX7_late_5 : decode cX7_late 5 = .ok (.invokevirtual 122, 3) := by decide +kernel
theorem dX7_late_8 : decode cX7_late 8 = .ok (.ifCond .eq 19, 3) := by decide +kernel
theorem dX7_late_11 : decode cX7_late 11 = .ok (.iload_n 2, 1) := by decide +kernel
theorem dX7_late_12 : decode cX7_late 12 = .ok (.ifCond .eq 15, 3) := by decide +kernel
theorem dX7_late_15 : decode cX7_late 15 = .ok (.iload_n 2, 1) := by decide +kernel
theorem dX7_late_16 : decode cX7_late 16 = .ok (.bipush (-20), 2) := by decide +kernel
theorem dX7_late_18 : decode cX7_late 18 = .ok (.if_icmp .lt 9, 3) := by decide +kernel
theorem dX7_late_21 : decode cX7_late 21 = .ok (.iload_n 2, 1) := by decide +kernel
theorem dX7_late_22 : decode cX7_late 22 = .ok (.bipush 60, 2) := by decide +kernel
theorem dX7_late_24 : decode cX7_late 24 = .ok (.if_icmp .le 5, 3) := by decide +kernel
theorem dX7_late_27 : decode cX7_late 27 = .ok (.iconst (-1), 1) := by decide +kernel
theorem dX7_late_28 : decode cX7_late 28 = .ok (.ireturn, 1) := by decide +kernel
theorem dX7_late_29 : decode cX7_late 29 = .ok (.aload_n 0, 1) := by decide +kernel
theorem dX7_late_30 : decode cX7_late 30 = .ok (.getfield 26, 3) := by decide +kernel
theorem dX7_late_33 : decode cX7_late 33 = .ok (.getfield 132, 3) := by decide +kernel
theorem dX7_late_36 : decode cX7_late 36 = .ok (.iload_n 1, 1) := by decide +kernel
theorem dX7_late_37 : decode cX7_late 37 = .ok (.iaload, 1) := by decide +kernel
theorem dX7_late_38 : decode cX7_late 38 = .ok (.iload_n 2, 1) := by decide +kernel
theorem dX7_late_39 : decode cX7_late 39 = .ok (.iadd, 1) := by decide +kernel
theorem dX7_late_40 : decode cX7_late 40 = .ok (.iconst 1, 1) := by decide +kernel
theorem dX7_late_41 : decode cX7_late 41 = .ok (.if_icmp .lt 19, 3) := by decide +kernel
theorem dX7_late_44 : decode cX7_late 44 = .ok (.aload_n 0, 1) := by decide +kernel
theorem dX7_late_45 : decode cX7_late 45 = .ok (.getfield 26, 3) := by decide +kernel
theorem dX7_late_48 : decode cX7_late 48 = .ok (.getfield 135, 3) := by decide +kernel
theorem dX7_late_51 : decode cX7_late 51 = .ok (.iload_n 1, 1) := by decide +kernel
theorem dX7_late_52 : decode cX7_late 52 = .ok (.iaload, 1) := by decide +kernel
theorem dX7_late_53 : decode cX7_late 53 = .ok (.iload_n 2, 1) := by decide +kernel
theorem dX7_late_54 : decode cX7_late 54 = .ok (.iadd, 1) := by decide +kernel
theorem dX7_late_55 : decode cX7_late 55 = .ok (.bipush 98, 2) := by decide +kernel
theorem dX7_late_57 : decode cX7_late 57 = .ok (.if_icmp .le 6, 3) := by decide +kernel
theorem dX7_late_60 : decode cX7_late 60 = .ok (.bipush (-2), 2) := by decide +kernel
theorem dX7_late_62 : decode cX7_late 62 = .ok (.ireturn, 1) := by decide +kernel
theorem dX7_late_63 : decode cX7_late 63 = .ok (.aload_n 0, 1) := by decide +kernel
theorem dX7_late_64 : decode cX7_late 64 = .ok (.getfield 63, 3) := by decide +kernel
theorem dX7_late_67 : decode cX7_late 67 = .ok (.aload_n 0, 1) := by decide +kernel
theorem dX7_late_68 : decode cX7_late 68 = .ok (.getfield 26, 3) := by decide +kernel
theorem dX7_late_71 : decode cX7_late 71 = .ok (.invokevirtual 163, 3) := by decide +kernel
theorem dX7_late_74 : decode cX7_late 74 = .ok (.aload_n 0, 1) := by decide +kernel
theorem dX7_late_75 : decode cX7_late 75 = .ok (.getfield 26, 3) := by decide +kernel
theorem dX7_late_78 : decode cX7_late 78 = .ok (.getfield 132, 3) := by decide +kernel
theorem dX7_late_81 : decode cX7_late 81 = .ok (.iload_n 1, 1) := by decide +kernel
theorem dX7_late_82 : decode cX7_late 82 = .ok (.dup2, 1) := by decide +kernel
theorem dX7_late_83 : decode cX7_late 83 = .ok (.iaload, 1) := by decide +kernel
theorem dX7_late_84 : decode cX7_late 84 = .ok (.iload_n 2, 1) := by decide +kernel
theorem dX7_late_85 : decode cX7_late 85 = .ok (.iadd, 1) := by decide +kernel
theorem dX7_late_86 : decode cX7_late 86 = .ok (.iastore, 1) := by decide +kernel
theorem dX7_late_87 : decode cX7_late 87 = .ok (.aload_n 0, 1) := by decide +kernel
theorem dX7_late_88 : decode cX7_late 88 = .ok (.getfield 26, 3) := by decide +kernel
theorem dX7_late_91 : decode cX7_late 91 = .ok (.getfield 135, 3) := by decide +kernel
theorem dX7_late_94 : decode cX7_late 94 = .ok (.iload_n 1, 1) := by decide +kernel
theorem dX7_late_95 : decode cX7_late 95 = .ok (.dup2, 1) := by decide +kernel
theorem dX7_late_96 : decode cX7_late 96 = .ok (.iaload, 1) := by decide +kernel
theorem dX7_late_97 : decode cX7_late 97 = .ok (.iload_n 2, 1) := by decide +kernel
theorem dX7_late_98 : decode cX7_late 98 = .ok (.iadd, 1) := by decide +kernel
theorem dX7_late_99 : decode cX7_late 99 = .ok (.iastore, 1) := by decide +kernel
theorem dX7_late_100 : decode cX7_late 100 = .ok (.aload_n 0, 1) := by decide +kernel
theorem dX7_late_101 : decode cX7_late 101 = .ok (.getfield 47, 3) := by decide +kernel
theorem dX7_late_104 : decode cX7_late 104 = .ok (.invokevirtual 103, 3) := by decide +kernel
theorem dX7_late_107 : decode cX7_late 107 = .ok (.aload_n 0, 1) := by decide +kernel
theorem dX7_late_108 : decode cX7_late 108 = .ok (.getfield 26, 3) := by decide +kernel
theorem dX7_late_111 : decode cX7_late 111 = .ok (.getfield 144, 3) := by decide +kernel
theorem dX7_late_114 : decode cX7_late 114 = .ok (.iload_n 1, 1) := by decide +kernel
theorem dX7_late_115 : decode cX7_late 115 = .ok (.iaload, 1) := by decide +kernel
theorem dX7_late_116 : decode cX7_late 116 = .ok (.istore_n 3, 1) := by decide +kernel
theorem dX7_late_117 : decode cX7_late 117 = .ok (.iload_n 3, 1) := by decide +kernel
theorem dX7_late_118 : decode cX7_late 118 = .ok (.bipush (-4), 2) := by decide +kernel
theorem dX7_late_120 : decode cX7_late 120 = .ok (.if_icmp .eq 15, 3) := by decide +kernel
theorem dX7_late_123 : decode cX7_late 123 = .ok (.aload_n 0, 1) := by decide +kernel
theorem dX7_late_124 : decode cX7_late 124 = .ok (.getfield 47, 3) := by decide +kernel
theorem dX7_late_127 : decode cX7_late 127 = .ok (.iload_n 1, 1) := by decide +kernel
theorem dX7_late_128 : decode cX7_late 128 = .ok (.iload_n 3, 1) := by decide +kernel
theorem dX7_late_129 : decode cX7_late 129 = .ok (.invokevirtual 160, 3) := by decide +kernel
theorem dX7_late_132 : decode cX7_late 132 = .ok (.ifCond .eq 5, 3) := by decide +kernel
theorem dX7_late_135 : decode cX7_late 135 = .ok (.iconst 0, 1) := by decide +kernel
theorem dX7_late_136 : decode cX7_late 136 = .ok (.ireturn, 1) := by decide +kernel
theorem dX7_late_137 : decode cX7_late 137 = .ok (.aload_n 0, 1) := by decide +kernel
theorem dX7_late_138 : decode cX7_late 138 = .ok (.getfield 26, 3) := by decide +kernel
theorem dX7_late_141 : decode cX7_late 141 = .ok (.getfield 144, 3) := by decide +kernel
theorem dX7_late_144 : decode cX7_late 144 = .ok (.iload_n 1, 1) := by decide +kernel
theorem dX7_late_145 : decode cX7_late 145 = .ok (.bipush (-4), 2) := by decide +kernel
theorem dX7_late_147 : decode cX7_late 147 = .ok (.iastore, 1) := by decide +kernel
theorem dX7_late_148 : decode cX7_late 148 = .ok (.iconst 1, 1) := by decide +kernel
theorem dX7_late_149 : decode cX7_late 149 = .ok (.ireturn, 1) := by decide +kernel
theorem dX7_wish_0 : decode cX7_wish 0 = .ok (.aload_n 0, 1) := by decide +kernel
theorem dX7_wish_1 : decode cX7_wish 1 = .ok (.getfield 19, 3) := by decide +kernel
theorem dX7_wish_4 : decode cX7_wish 4 = .ok (.iload_n 1, 1) := by decide +kernel
theorem dX7_wish_5 : decode cX7_wish 5 = .ok (.invokevirtual 122, 3) := by decide +kernel
theorem dX7_wish_8 : decode cX7_wish 8 = .ok (.ifCond .eq 20, 3) := by decide +kernel
theorem dX7_wish_11 : decode cX7_wish 11 = .ok (.iload_n 2, 1) := by decide +kernel
theorem dX7_wish_12 : decode cX7_wish 12 = .ok (.bipush 9, 2) := by decide +kernel
theorem dX7_wish_14 : decode cX7_wish 14 = .ok (.if_icmp .eq 16, 3) := by decide +kernel
theorem dX7_wish_17 : decode cX7_wish 17 = .ok (.aload_n 0, 1) := by decide +kernel
theorem dX7_wish_18 : decode cX7_wish 18 = .ok (.getfield 19, 3) := by decide +kernel
theorem dX7_wish_21 : decode cX7_wish 21 = .ok (.iload_n 2, 1) := by decide +kernel
theorem dX7_wish_22 : decode cX7_wish 22 = .ok (.invokevirtual 115, 3) := by decide +kernel
theorem dX7_wish_25 : decode cX7_wish 25 = .ok (.ifCond .ne 5, 3) := by decide +kernel
theorem dX7_wish_28 : decode cX7_wish 28 = .ok (.iconst (-1), 1) := by decide +kernel
theorem dX7_wish_29 : decode cX7_wish 29 = .ok (.ireturn, 1) := by decide +kernel
theorem dX7_wish_30 : decode cX7_wish 30 = .ok (.aload_n 0, 1) := by decide +kernel
theorem dX7_wish_31 : decode cX7_wish 31 = .ok (.getfield 26, 3) := by decide +kernel
theorem dX7_wish_34 : decode cX7_wish 34 = .ok (.getfield 138, 3) := by decide +kernel
theorem dX7_wish_37 : decode cX7_wish 37 = .ok (.iload_n 1, 1) := by decide +kernel
theorem dX7_wish_38 : decode cX7_wish 38 = .ok (.iaload, 1) := by decide +kernel
theorem dX7_wish_39 : decode cX7_wish 39 = .ok (.istore_n 3, 1) := by decide +kernel
theorem dX7_wish_40 : decode cX7_wish 40 = .ok (.iload_n 3, 1) := by decide +kernel
theorem dX7_wish_41 : decode cX7_wish 41 = .ok (.iload_n 2, 1) := by decide +kernel
theorem dX7_wish_42 : decode cX7_wish 42 = .ok (.if_icmp .ne 6, 3) := by decide +kernel
theorem dX7_wish_45 : decode cX7_wish 45 = .ok (.bipush (-2), 2) := by decide +kernel
theorem dX7_wish_47 : decode cX7_wish 47 = .ok (.ireturn, 1) := by decide +kernel
theorem dX7_wish_48 : decode cX7_wish 48 = .ok (.aload_n 0, 1) := by decide +kernel
theorem dX7_wish_49 : decode cX7_wish 49 = .ok (.getfield 63, 3) := by decide +kernel
theorem dX7_wish_52 : decode cX7_wish 52 = .ok (.aload_n 0, 1) := by decide +kernel
theorem dX7_wish_53 : decode cX7_wish 53 = .ok (.getfield 26, 3) := by decide +kernel
theorem dX7_wish_56 : decode cX7_wish 56 = .ok (.invokevirtual 163, 3) := by decide +kernel
theorem dX7_wish_59 : decode cX7_wish 59 = .ok (.aload_n 0, 1) := by decide +kernel
theorem dX7_wish_60 : decode cX7_wish 60 = .ok (.getfield 26, 3) := by decide +kernel
theorem dX7_wish_63 : decode cX7_wish 63 = .ok (.getfield 138, 3) := by decide +kernel
theorem dX7_wish_66 : decode cX7_wish 66 = .ok (.iload_n 1, 1) := by decide +kernel
theorem dX7_wish_67 : decode cX7_wish 67 = .ok (.iload_n 2, 1) := by decide +kernel
theorem dX7_wish_68 : decode cX7_wish 68 = .ok (.iastore, 1) := by decide +kernel
theorem dX7_wish_69 : decode cX7_wish 69 = .ok (.iload_n 3, 1) := by decide +kernel
theorem dX7_wish_70 : decode cX7_wish 70 = .ok (.ireturn, 1) := by decide +kernel
theorem dX7_way_0 : decode cX7_way 0 = .ok (.iload_n 1, 1) := by decide +kernel
theorem dX7_way_1 : decode cX7_way 1 = .ok (.ifCond .eq 8, 3) := by decide +kernel
theorem dX7_way_4 : decode cX7_way 4 = .ok (.iload_n 1, 1) := by decide +kernel
theorem dX7_way_5 : decode cX7_way 5 = .ok (.iconst 1, 1) := by decide +kernel
theorem dX7_way_6 : decode cX7_way 6 = .ok (.if_icmp .ne 20, 3) := by decide +kernel
theorem dX7_way_9 : decode cX7_way 9 = .ok (.iload_n 2, 1) := by decide +kernel
theorem dX7_way_10 : decode cX7_way 10 = .ok (.bipush (-3), 2) := by decide +kernel
theorem dX7_way_12 : decode cX7_way 12 = .ok (.if_icmp .lt 14, 3) := by decide +kernel
theorem dX7_way_15 : decode cX7_way 15 = .ok (.iload_n 2, 1) := by decide +kernel
theorem dX7_way_16 : decode cX7_way 16 = .ok (.aload_n 0, 1) := by decide +kernel
theorem dX7_way_17 : decode cX7_way 17 = .ok (.getfield 19, 3) := by decide +kernel
theorem dX7_way_20 : decode cX7_way 20 = .ok (.getfield 109, 3) := by decide +kernel
theorem dX7_way_23 : decode cX7_way 23 = .ok (.if_icmp .lt 5, 3) := by decide +kernel
theorem dX7_way_26 : decode cX7_way 26 = .ok (.iconst (-1), 1) := by decide +kernel
theorem dX7_way_27 : decode cX7_way 27 = .ok (.ireturn, 1) := by decide +kernel
theorem dX7_way_28 : decode cX7_way 28 = .ok (.aload_n 0, 1) := by decide +kernel
theorem dX7_way_29 : decode cX7_way 29 = .ok (.getfield 56, 3) := by decide +kernel
theorem dX7_way_32 : decode cX7_way 32 = .ok (.iload_n 1, 1) := by decide +kernel
theorem dX7_way_33 : decode cX7_way 33 = .ok (.invokevirtual 183, 3) := by decide +kernel
theorem dX7_way_36 : decode cX7_way 36 = .ok (.iload_n 2, 1) := by decide +kernel
theorem dX7_way_37 : decode cX7_way 37 = .ok (.tableswitch 59 (-3) (-1) #[47, 35, 27], 27) := by decide +kernel
theorem dX7_way_64 : decode cX7_way 64 = .ok (.aload_n 0, 1) := by decide +kernel
theorem dX7_way_65 : decode cX7_way 65 = .ok (.getfield 56, 3) := by decide +kernel
theorem dX7_way_68 : decode cX7_way 68 = .ok (.invokevirtual 187, 3) := by decide +kernel
theorem dX7_way_71 : decode cX7_way 71 = .ok (.ireturn, 1) := by decide +kernel
theorem dX7_way_72 : decode cX7_way 72 = .ok (.aload_n 0, 1) := by decide +kernel
theorem dX7_way_73 : decode cX7_way 73 = .ok (.aload_n 0, 1) := by decide +kernel
theorem dX7_way_74 : decode cX7_way 74 = .ok (.getfield 56, 3) := by decide +kernel
theorem dX7_way_77 : decode cX7_way 77 = .ok (.getfield 190, 3) := by decide +kernel
theorem dX7_way_80 : decode cX7_way 80 = .ok (.invokevirtual 193, 3) := by decide +kernel
theorem dX7_way_83 : decode cX7_way 83 = .ok (.ireturn, 1) := by decide +kernel
theorem dX7_way_84 : decode cX7_way 84 = .ok (.aload_n 0, 1) := by decide +kernel
theorem dX7_way_85 : decode cX7_way 85 = .ok (.aload_n 0, 1) := by decide +kernel
theorem dX7_way_86 : decode cX7_way 86 = .ok (.getfield 56, 3) := by decide +kernel
theorem dX7_way_89 : decode cX7_way 89 = .ok (.getfield 190, 3) := by decide +kernel
theorem dX7_way_92 : decode cX7_way 92 = .ok (.invokevirtual 197, 3) := by decide +kernel
theorem dX7_way_95 : decode cX7_way 95 = .ok (.ireturn, 1) := by decide +kernel
theorem dX7_way_96 : decode cX7_way 96 = .ok (.aload_n 0, 1) := by decide +kernel
theorem dX7_way_97 : decode cX7_way 97 = .ok (.getfield 56, 3) := by decide +kernel
theorem dX7_way_100 : decode cX7_way 100 = .ok (.getfield 190, 3) := by decide +kernel
theorem dX7_way_103 : decode cX7_way 103 = .ok (.iload_n 2, 1) := by decide +kernel
theorem dX7_way_104 : decode cX7_way 104 = .ok (.iaload, 1) := by decide +kernel
theorem dX7_way_105 : decode cX7_way 105 = .ok (.ireturn, 1) := by decide +kernel
theorem dX7_adopt_0 : decode cX7_adopt 0 = .ok (.iload_n 1, 1) := by decide +kernel
theorem dX7_adopt_1 : decode cX7_adopt 1 = .ok (.ifCond .eq 10, 3) := by decide +kernel
theorem dX7_adopt_4 : decode cX7_adopt 4 = .ok (.iload_n 1, 1) := by decide +kernel
theorem dX7_adopt_5 : decode cX7_adopt 5 = .ok (.iconst 1, 1) := by decide +kernel
theorem dX7_adopt_6 : decode cX7_adopt 6 = .ok (.if_icmp .eq 5, 3) := by decide +kernel
theorem dX7_adopt_9 : decode cX7_adopt 9 = .ok (.iconst (-1), 1) := by decide +kernel
theorem dX7_adopt_10 : decode cX7_adopt 10 = .ok (.ireturn, 1) := by decide +kernel
theorem dX7_adopt_11 : decode cX7_adopt 11 = .ok (.aload_n 0, 1) := by decide +kernel
theorem dX7_adopt_12 : decode cX7_adopt 12 = .ok (.getfield 56, 3) := by decide +kernel
theorem dX7_adopt_15 : decode cX7_adopt 15 = .ok (.iload_n 1, 1) := by decide +kernel
theorem dX7_adopt_16 : decode cX7_adopt 16 = .ok (.invokevirtual 183, 3) := by decide +kernel
theorem dX7_adopt_19 : decode cX7_adopt 19 = .ok (.aload_n 0, 1) := by decide +kernel
theorem dX7_adopt_20 : decode cX7_adopt 20 = .ok (.aload_n 0, 1) := by decide +kernel
theorem dX7_adopt_21 : decode cX7_adopt 21 = .ok (.getfield 56, 3) := by decide +kernel
theorem dX7_adopt_24 : decode cX7_adopt 24 = .ok (.getfield 190, 3) := by decide +kernel
theorem dX7_adopt_27 : decode cX7_adopt 27 = .ok (.invokevirtual 197, 3) := by decide +kernel
theorem dX7_adopt_30 : decode cX7_adopt 30 = .ok (.istore_n 2, 1) := by decide +kernel
theorem dX7_adopt_31 : decode cX7_adopt 31 = .ok (.aload_n 0, 1) := by decide +kernel
theorem dX7_adopt_32 : decode cX7_adopt 32 = .ok (.getfield 63, 3) := by decide +kernel
theorem dX7_adopt_35 : decode cX7_adopt 35 = .ok (.aload_n 0, 1) := by decide +kernel
theorem dX7_adopt_36 : decode cX7_adopt 36 = .ok (.getfield 26, 3) := by decide +kernel
theorem dX7_adopt_39 : decode cX7_adopt 39 = .ok (.invokevirtual 163, 3) := by decide +kernel
theorem dX7_adopt_42 : decode cX7_adopt 42 = .ok (.aload_n 0, 1) := by decide +kernel
theorem dX7_adopt_43 : decode cX7_adopt 43 = .ok (.getfield 56, 3) := by decide +kernel
theorem dX7_adopt_46 : decode cX7_adopt 46 = .ok (.getfield 190, 3) := by decide +kernel
theorem dX7_adopt_49 : decode cX7_adopt 49 = .ok (.iconst 0, 1) := by decide +kernel
theorem dX7_adopt_50 : decode cX7_adopt 50 = .ok (.aload_n 0, 1) := by decide +kernel
theorem dX7_adopt_51 : decode cX7_adopt 51 = .ok (.getfield 26, 3) := by decide +kernel
theorem dX7_adopt_54 : decode cX7_adopt 54 = .ok (.getfield 144, 3) := by decide +kernel
theorem dX7_adopt_57 : decode cX7_adopt 57 = .ok (.iconst 0, 1) := by decide +kernel
theorem dX7_adopt_58 : decode cX7_adopt 58 = .ok (.aload_n 0, 1) := by decide +kernel
theorem dX7_adopt_59 : decode cX7_adopt 59 = .ok (.getfield 19, 3) := by decide +kernel
theorem dX7_adopt_62 : decode cX7_adopt 62 = .ok (.getfield 109, 3) := by decide +kernel
theorem dX7_adopt_65 : decode cX7_adopt 65 = .ok (.invokestatic 200, 3) := by decide +kernel
theorem dX7_adopt_68 : decode cX7_adopt 68 = .ok (.iload_n 2, 1) := by decide +kernel
theorem dX7_adopt_69 : decode cX7_adopt 69 = .ok (.ireturn, 1) := by decide +kernel
theorem dX7_without_0 : decode cX7_without 0 = .ok (.iload_n 1, 1) := by decide +kernel
theorem dX7_without_1 : decode cX7_without 1 = .ok (.ifCond .lt 9, 3) := by decide +kernel
theorem dX7_without_4 : decode cX7_without 4 = .ok (.iload_n 1, 1) := by decide +kernel
theorem dX7_without_5 : decode cX7_without 5 = .ok (.bipush 12, 2) := by decide +kernel
theorem dX7_without_7 : decode cX7_without 7 = .ok (.if_icmp .lt 5, 3) := by decide +kernel
theorem dX7_without_10 : decode cX7_without 10 = .ok (.iconst (-1), 1) := by decide +kernel
theorem dX7_without_11 : decode cX7_without 11 = .ok (.ireturn, 1) := by decide +kernel
theorem dX7_without_12 : decode cX7_without 12 = .ok (.aload_n 0, 1) := by decide +kernel
theorem dX7_without_13 : decode cX7_without 13 = .ok (.getfield 56, 3) := by decide +kernel
theorem dX7_without_16 : decode cX7_without 16 = .ok (.iconst 1, 1) := by decide +kernel
theorem dX7_without_17 : decode cX7_without 17 = .ok (.iload_n 1, 1) := by decide +kernel
theorem dX7_without_18 : decode cX7_without 18 = .ok (.ishl, 1) := by decide +kernel
theorem dX7_without_19 : decode cX7_without 19 = .ok (.invokevirtual 206, 3) := by decide +kernel
theorem dX7_without_22 : decode cX7_without 22 = .ok (.aload_n 0, 1) := by decide +kernel
theorem dX7_without_23 : decode cX7_without 23 = .ok (.getfield 56, 3) := by decide +kernel
theorem dX7_without_26 : decode cX7_without 26 = .ok (.invokevirtual 187, 3) := by decide +kernel
theorem dX7_without_29 : decode cX7_without 29 = .ok (.ireturn, 1) := by decide +kernel
theorem dX7_undo_0 : decode cX7_undo 0 = .ok (.aload_n 0, 1) := by decide +kernel
theorem dX7_undo_1 : decode cX7_undo 1 = .ok (.getfield 63, 3) := by decide +kernel
theorem dX7_undo_4 : decode cX7_undo 4 = .ok (.getfield 106, 3) := by decide +kernel
theorem dX7_undo_7 : decode cX7_undo 7 = .ok (.ifCond .ne 6, 3) := by decide +kernel
theorem dX7_undo_10 : decode cX7_undo 10 = .ok (.bipush (-2), 2) := by decide +kernel
theorem dX7_undo_12 : decode cX7_undo 12 = .ok (.ireturn, 1) := by decide +kernel
theorem dX7_undo_13 : decode cX7_undo 13 = .ok (.aload_n 0, 1) := by decide +kernel
theorem dX7_undo_14 : decode cX7_undo 14 = .ok (.getfield 63, 3) := by decide +kernel
theorem dX7_undo_17 : decode cX7_undo 17 = .ok (.aload_n 0, 1) := by decide +kernel
theorem dX7_undo_18 : decode cX7_undo 18 = .ok (.getfield 26, 3) := by decide +kernel
theorem dX7_undo_21 : decode cX7_undo 21 = .ok (.invokevirtual 209, 3) := by decide +kernel
theorem dX7_undo_24 : decode cX7_undo 24 = .ok (.aload_n 0, 1) := by decide +kernel
theorem dX7_undo_25 : decode cX7_undo 25 = .ok (.getfield 47, 3) := by decide +kernel
theorem dX7_undo_28 : decode cX7_undo 28 = .ok (.invokevirtual 103, 3) := by decide +kernel
theorem dX7_undo_31 : decode cX7_undo 31 = .ok (.aload_n 0, 1) := by decide +kernel
theorem dX7_undo_32 : decode cX7_undo 32 = .ok (.getfield 63, 3) := by decide +kernel
theorem dX7_undo_35 : decode cX7_undo 35 = .ok (.getfield 106, 3) := by decide +kernel
theorem dX7_undo_38 : decode cX7_undo 38 = .ok (.ireturn, 1) := by decide +kernel
theorem dX7_on_0 : decode cX7_on 0 = .ok (.aload_n 0, 1) := by decide +kernel
theorem dX7_on_1 : decode cX7_on 1 = .ok (.getfield 19, 3) := by decide +kernel
theorem dX7_on_4 : decode cX7_on 4 = .ok (.iload_n 1, 1) := by decide +kernel
theorem dX7_on_5 : decode cX7_on 5 = .ok (.invokevirtual 115, 3) := by decide +kernel
theorem dX7_on_8 : decode cX7_on 8 = .ok (.ifCond .eq 13, 3) := by decide +kernel
theorem dX7_on_11 : decode cX7_on 11 = .ok (.iload_n 2, 1) := by decide +kernel
theorem dX7_on_12 : decode cX7_on 12 = .ok (.ifCond .lt 9, 3) := by decide +kernel
theorem dX7_on_15 : decode cX7_on 15 = .ok (.iload_n 2, 1) := by decide +kernel
theorem dX7_on_16 : decode cX7_on 16 = .ok (.bipush 100, 2) := by decide +kernel
theorem dX7_on_18 : decode cX7_on 18 = .ok (.if_icmp .lt 5, 3) := by decide +kernel
theorem dX7_on_21 : decode cX7_on 21 = .ok (.iconst (-1), 1) := by decide +kernel
theorem dX7_on_22 : decode cX7_on 22 = .ok (.ireturn, 1) := by decide +kernel
theorem dX7_on_23 : decode cX7_on 23 = .ok (.aload_n 0, 1) := by decide +kernel
theorem dX7_on_24 : decode cX7_on 24 = .ok (.iload_n 1, 1) := by decide +kernel
theorem dX7_on_25 : decode cX7_on 25 = .ok (.iload_n 2, 1) := by decide +kernel
theorem dX7_on_26 : decode cX7_on 26 = .ok (.invokevirtual 212, 3) := by decide +kernel
theorem dX7_on_29 : decode cX7_on 29 = .ok (.ireturn, 1) := by decide +kernel
theorem dX7_taken_0 : decode cX7_taken 0 = .ok (.iload_n 1, 1) := by decide +kernel
theorem dX7_taken_1 : decode cX7_taken 1 = .ok (.ifCond .lt 9, 3) := by decide +kernel
theorem dX7_taken_4 : decode cX7_taken 4 = .ok (.iload_n 1, 1) := by decide +kernel
theorem dX7_taken_5 : decode cX7_taken 5 = .ok (.bipush 100, 2) := by decide +kernel
theorem dX7_taken_7 : decode cX7_taken 7 = .ok (.if_icmp .lt 5, 3) := by decide +kernel
theorem dX7_taken_10 : decode cX7_taken 10 = .ok (.iconst (-1), 1) := by decide +kernel
theorem dX7_taken_11 : decode cX7_taken 11 = .ok (.ireturn, 1) := by decide +kernel
theorem dX7_taken_12 : decode cX7_taken 12 = .ok (.aload_n 0, 1) := by decide +kernel
theorem dX7_taken_13 : decode cX7_taken 13 = .ok (.iload_n 1, 1) := by decide +kernel
theorem dX7_taken_14 : decode cX7_taken 14 = .ok (.invokevirtual 215, 3) := by decide +kernel
theorem dX7_taken_17 : decode cX7_taken 17 = .ok (.ireturn, 1) := by decide +kernel
theorem dX7_use_0 : decode cX7_use 0 = .ok (.iload_n 1, 1) := by decide +kernel
theorem dX7_use_1 : decode cX7_use 1 = .ok (.ifCond .ne 24, 3) := by decide +kernel
theorem dX7_use_4 : decode cX7_use 4 = .ok (.aload_n 0, 1) := by decide +kernel
theorem dX7_use_5 : decode cX7_use 5 = .ok (.getfield 19, 3) := by decide +kernel
theorem dX7_use_8 : decode cX7_use 8 = .ok (.iload_n 2, 1) := by decide +kernel
theorem dX7_use_9 : decode cX7_use 9 = .ok (.invokevirtual 115, 3) := by decide +kernel
theorem dX7_use_12 : decode cX7_use 12 = .ok (.ifCond .eq 11, 3) := by decide +kernel
theorem dX7_use_15 : decode cX7_use 15 = .ok (.aload_n 0, 1) := by decide +kernel
theorem dX7_use_16 : decode cX7_use 16 = .ok (.iload_n 2, 1) := by decide +kernel
theorem dX7_use_17 : decode cX7_use 17 = .ok (.invokevirtual 218, 3) := by decide +kernel
theorem dX7_use_20 : decode cX7_use 20 = .ok (.goto 4, 3) := by decide +kernel
theorem dX7_use_23 : decode cX7_use 23 = .ok (.iconst (-1), 1) := by decide +kernel
theorem dX7_use_24 : decode cX7_use 24 = .ok (.ireturn, 1) := by decide +kernel
theorem dX7_use_25 : decode cX7_use 25 = .ok (.iload_n 1, 1) := by decide +kernel
theorem dX7_use_26 : decode cX7_use 26 = .ok (.iconst 1, 1) := by decide +kernel
theorem dX7_use_27 : decode cX7_use 27 = .ok (.if_icmp .ne 23, 3) := by decide +kernel
theorem dX7_use_30 : decode cX7_use 30 = .ok (.iload_n 2, 1) := by decide +kernel
theorem dX7_use_31 : decode cX7_use 31 = .ok (.ifCond .lt 17, 3) := by decide +kernel
theorem dX7_use_34 : decode cX7_use 34 = .ok (.iload_n 2, 1) := by decide +kernel
theorem dX7_use_35 : decode cX7_use 35 = .ok (.bipush 12, 2) := by decide +kernel
theorem dX7_use_37 : decode cX7_use 37 = .ok (.if_icmp .ge 11, 3) := by decide +kernel
theorem dX7_use_40 : decode cX7_use 40 = .ok (.aload_n 0, 1) := by decide +kernel
theorem dX7_use_41 : decode cX7_use 41 = .ok (.iload_n 2, 1) := by decide +kernel
theorem dX7_use_42 : decode cX7_use 42 = .ok (.invokevirtual 221, 3) := by decide +kernel
theorem dX7_use_45 : decode cX7_use 45 = .ok (.goto 4, 3) := by decide +kernel
theorem dX7_use_48 : decode cX7_use 48 = .ok (.iconst (-1), 1) := by decide +kernel
theorem dX7_use_49 : decode cX7_use 49 = .ok (.ireturn, 1) := by decide +kernel
theorem dX7_use_50 : decode cX7_use 50 = .ok (.iconst (-1), 1) := by decide +kernel
theorem dX7_use_51 : decode cX7_use 51 = .ok (.ireturn, 1) := by decide +kernel
theorem dX7_count_0 : decode cX7_count 0 = .ok (.iload_n 1, 1) := by decide +kernel
theorem dX7_count_1 : decode cX7_count 1 = .ok (.tableswitch 112 0 7 #[47, 55, 63, 71, 79, 84, 96, 104], 47) := by decide +kernel
theorem dX7_count_48 : decode cX7_count 48 = .ok (.aload_n 0, 1) := by decide +kernel
theorem dX7_count_49 : decode cX7_count 49 = .ok (.getfield 19, 3) := by decide +kernel
theorem dX7_count_52 : decode cX7_count 52 = .ok (.getfield 100, 3) := by decide +kernel
theorem dX7_count_55 : decode cX7_count 55 = .ok (.ireturn, 1) := by decide +kernel
theorem dX7_count_56 : decode cX7_count 56 = .ok (.aload_n 0, 1) := by decide +kernel
theorem dX7_count_57 : decode cX7_count 57 = .ok (.getfield 19, 3) := by decide +kernel
theorem dX7_count_60 : decode cX7_count 60 = .ok (.getfield 153, 3) := by decide +kernel
theorem dX7_count_63 : decode cX7_count 63 = .ok (.ireturn, 1) := by decide +kernel
theorem dX7_count_64 : decode cX7_count 64 = .ok (.aload_n 0, 1) := by decide +kernel
theorem dX7_count_65 : decode cX7_count 65 = .ok (.getfield 19, 3) := by decide +kernel
theorem dX7_count_68 : decode cX7_count 68 = .ok (.getfield 109, 3) := by decide +kernel
theorem dX7_count_71 : decode cX7_count 71 = .ok (.ireturn, 1) := by decide +kernel
theorem dX7_count_72 : decode cX7_count 72 = .ok (.aload_n 0, 1) := by decide +kernel
theorem dX7_count_73 : decode cX7_count 73 = .ok (.getfield 19, 3) := by decide +kernel
theorem dX7_count_76 : decode cX7_count 76 = .ok (.getfield 224, 3) := by decide +kernel
theorem dX7_count_79 : decode cX7_count 79 = .ok (.ireturn, 1) := by decide +kernel
theorem dX7_count_80 : decode cX7_count 80 = .ok (.aload_n 0, 1) := by decide +kernel
theorem dX7_count_81 : decode cX7_count 81 = .ok (.invokevirtual 167, 3) := by decide +kernel
theorem dX7_count_84 : decode cX7_count 84 = .ok (.ireturn, 1) := by decide +kernel
theorem dX7_count_85 : decode cX7_count 85 = .ok (.aload_n 0, 1) := by decide +kernel
theorem dX7_count_86 : decode cX7_count 86 = .ok (.aload_n 0, 1) := by decide +kernel
theorem dX7_count_87 : decode cX7_count 87 = .ok (.getfield 26, 3) := by decide +kernel
theorem dX7_count_90 : decode cX7_count 90 = .ok (.getfield 144, 3) := by decide +kernel
theorem dX7_count_93 : decode cX7_count 93 = .ok (.invokevirtual 193, 3) := by decide +kernel
theorem dX7_count_96 : decode cX7_count 96 = .ok (.ireturn, 1) := by decide +kernel
theorem dX7_count_97 : decode cX7_count 97 = .ok (.aload_n 0, 1) := by decide +kernel
theorem dX7_count_98 : decode cX7_count 98 = .ok (.getfield 63, 3) := by decide +kernel
theorem dX7_count_101 : decode cX7_count 101 = .ok (.getfield 106, 3) := by decide +kernel
theorem dX7_count_104 : decode cX7_count 104 = .ok (.ireturn, 1) := by decide +kernel
theorem dX7_count_105 : decode cX7_count 105 = .ok (.aload_n 0, 1) := by decide +kernel
theorem dX7_count_106 : decode cX7_count 106 = .ok (.getfield 10, 3) := by decide +kernel
theorem dX7_count_109 : decode cX7_count 109 = .ok (.getfield 93, 3) := by decide +kernel
theorem dX7_count_112 : decode cX7_count 112 = .ok (.ireturn, 1) := by decide +kernel
theorem dX7_count_113 : decode cX7_count 113 = .ok (.iconst (-1), 1) := by decide +kernel
theorem dX7_count_114 : decode cX7_count 114 = .ok (.ireturn, 1) := by decide +kernel
theorem dX7_placedTrains_0 : decode cX7_placedTrains 0 = .ok (.iconst 0, 1) := by decide +kernel
theorem dX7_placedTrains_1 : decode cX7_placedTrains 1 = .ok (.istore_n 1, 1) := by decide +kernel
theorem dX7_placedTrains_2 : decode cX7_placedTrains 2 = .ok (.iconst 0, 1) := by decide +kernel
theorem dX7_placedTrains_3 : decode cX7_placedTrains 3 = .ok (.istore_n 2, 1) := by decide +kernel
theorem dX7_placedTrains_4 : decode cX7_placedTrains 4 = .ok (.iload_n 2, 1) := by decide +kernel
theorem dX7_placedTrains_5 : decode cX7_placedTrains 5 = .ok (.aload_n 0, 1) := by decide +kernel
theorem dX7_placedTrains_6 : decode cX7_placedTrains 6 = .ok (.getfield 19, 3) := by decide +kernel
theorem dX7_placedTrains_9 : decode cX7_placedTrains 9 = .ok (.getfield 109, 3) := by decide +kernel
theorem dX7_placedTrains_12 : decode cX7_placedTrains 12 = .ok (.if_icmp .ge 26, 3) := by decide +kernel
theorem dX7_placedTrains_15 : decode cX7_placedTrains 15 = .ok (.aload_n 0, 1) := by decide +kernel
theorem dX7_placedTrains_16 : decode cX7_placedTrains 16 = .ok (.getfield 26, 3) := by decide +kernel
theorem dX7_placedTrains_19 : decode cX7_placedTrains 19 = .ok (.getfield 144, 3) := by decide +kernel
theorem dX7_placedTrains_22 : decode cX7_placedTrains 22 = .ok (.iload_n 2, 1) := by decide +kernel
theorem dX7_placedTrains_23 : decode cX7_placedTrains 23 = .ok (.iaload, 1) := by decide +kernel
theorem dX7_placedTrains_24 : decode cX7_placedTrains 24 = .ok (.bipush (-4), 2) := by decide +kernel
theorem dX7_placedTrains_26 : decode cX7_placedTrains 26 = .ok (.if_icmp .eq 6, 3) := by decide +kernel
theorem dX7_placedTrains_29 : decode cX7_placedTrains 29 = .ok (.iinc 1 1, 3) := by decide +kernel
theorem dX7_placedTrains_32 : decode cX7_placedTrains 32 = .ok (.iinc 2 1, 3) := by decide +kernel
theorem dX7_placedTrains_35 : decode cX7_placedTrains 35 = .ok (.goto (-31), 3) := by decide +kernel
theorem dX7_placedTrains_38 : decode cX7_placedTrains 38 = .ok (.iload_n 1, 1) := by decide +kernel
theorem dX7_placedTrains_39 : decode cX7_placedTrains 39 = .ok (.ireturn, 1) := by decide +kernel
theorem dX7_wishesMet_0 : decode cX7_wishesMet 0 = .ok (.iconst 0, 1) := by decide +kernel
theorem dX7_wishesMet_1 : decode cX7_wishesMet 1 = .ok (.istore_n 2, 1) := by decide +kernel
theorem dX7_wishesMet_2 : decode cX7_wishesMet 2 = .ok (.iconst 0, 1) := by decide +kernel
theorem dX7_wishesMet_3 : decode cX7_wishesMet 3 = .ok (.istore_n 3, 1) := by decide +kernel
theorem dX7_wishesMet_4 : decode cX7_wishesMet 4 = .ok (.iload_n 3, 1) := by decide +kernel
theorem dX7_wishesMet_5 : decode cX7_wishesMet 5 = .ok (.aload_n 0, 1) := by decide +kernel
theorem dX7_wishesMet_6 : decode cX7_wishesMet 6 = .ok (.getfield 19, 3) := by decide +kernel
theorem dX7_wishesMet_9 : decode cX7_wishesMet 9 = .ok (.getfield 109, 3) := by decide +kernel
theorem dX7_wishesMet_12 : decode cX7_wishesMet 12 = .ok (.if_icmp .ge 27, 3) := by decide +kernel
theorem dX7_wishesMet_15 : decode cX7_wishesMet 15 = .ok (.aload_n 1, 1) := by decide +kernel
theorem dX7_wishesMet_16 : decode cX7_wishesMet 16 = .ok (.iload_n 3, 1) := by decide +kernel
theorem dX7_wishesMet_17 : decode cX7_wishesMet 17 = .ok (.iaload, 1) := by decide +kernel
theorem dX7_wishesMet_18 : decode cX7_wishesMet 18 = .ok (.aload_n 0, 1) := by decide +kernel
theorem dX7_wishesMet_19 : decode cX7_wishesMet 19 = .ok (.getfield 26, 3) := by decide +kernel
theorem dX7_wishesMet_22 : decode cX7_wishesMet 22 = .ok (.getfield 138, 3) := by decide +kernel
theorem dX7_wishesMet_25 : decode cX7_wishesMet 25 = .ok (.iload_n 3, 1) := by decide +kernel
theorem dX7_wishesMet_26 : decode cX7_wishesMet 26 = .ok (.iaload, 1) := by decide +kernel
theorem dX7_wishesMet_27 : decode cX7_wishesMet 27 = .ok (.if_icmp .ne 6, 3) := by decide +kernel
theorem dX7_wishesMet_30 : decode cX7_wishesMet 30 = .ok (.iinc 2 1, 3) := by decide +kernel
theorem dX7_wishesMet_33 : decode cX7_wishesMet 33 = .ok (.iinc 3 1, 3) := by decide +kernel
theorem dX7_wishesMet_36 : decode cX7_wishesMet 36 = .ok (.goto (-32), 3) := by decide +kernel
theorem dX7_wishesMet_39 : decode cX7_wishesMet 39 = .ok (.iload_n 2, 1) := by decide +kernel
theorem dX7_wishesMet_40 : decode cX7_wishesMet 40 = .ok (.ireturn, 1) := by decide +kernel
theorem dX7_movedBy_0 : decode cX7_movedBy 0 = .ok (.iconst 0, 1) := by decide +kernel
theorem dX7_movedBy_1 : decode cX7_movedBy 1 = .ok (.istore_n 2, 1) := by decide +kernel
theorem dX7_movedBy_2 : decode cX7_movedBy 2 = .ok (.iconst 0, 1) := by decide +kernel
theorem dX7_movedBy_3 : decode cX7_movedBy 3 = .ok (.istore_n 3, 1) := by decide +kernel
theorem dX7_movedBy_4 : decode cX7_movedBy 4 = .ok (.iload_n 3, 1) := by decide +kernel
theorem dX7_movedBy_5 : decode cX7_movedBy 5 = .ok (.aload_n 0, 1) := by decide +kernel
theorem dX7_movedBy_6 : decode cX7_movedBy 6 = .ok (.getfield 19, 3) := by decide +kernel
theorem dX7_movedBy_9 : decode cX7_movedBy 9 = .ok (.getfield 109, 3) := by decide +kernel
theorem dX7_movedBy_12 : decode cX7_movedBy 12 = .ok (.if_icmp .ge 27, 3) := by decide +kernel
theorem dX7_movedBy_15 : decode cX7_movedBy 15 = .ok (.aload_n 1, 1) := by decide +kernel
theorem dX7_movedBy_16 : decode cX7_movedBy 16 = .ok (.iload_n 3, 1) := by decide +kernel
theorem dX7_movedBy_17 : decode cX7_movedBy 17 = .ok (.iaload, 1) := by decide +kernel
theorem dX7_movedBy_18 : decode cX7_movedBy 18 = .ok (.aload_n 0, 1) := by decide +kernel
theorem dX7_movedBy_19 : decode cX7_movedBy 19 = .ok (.getfield 26, 3) := by decide +kernel
theorem dX7_movedBy_22 : decode cX7_movedBy 22 = .ok (.getfield 144, 3) := by decide +kernel
theorem dX7_movedBy_25 : decode cX7_movedBy 25 = .ok (.iload_n 3, 1) := by decide +kernel
theorem dX7_movedBy_26 : decode cX7_movedBy 26 = .ok (.iaload, 1) := by decide +kernel
theorem dX7_movedBy_27 : decode cX7_movedBy 27 = .ok (.if_icmp .eq 6, 3) := by decide +kernel
theorem dX7_movedBy_30 : decode cX7_movedBy 30 = .ok (.iinc 2 1, 3) := by decide +kernel
theorem dX7_movedBy_33 : decode cX7_movedBy 33 = .ok (.iinc 3 1, 3) := by decide +kernel
theorem dX7_movedBy_36 : decode cX7_movedBy 36 = .ok (.goto (-32), 3) := by decide +kernel
theorem dX7_movedBy_39 : decode cX7_movedBy 39 = .ok (.iload_n 2, 1) := by decide +kernel
theorem dX7_movedBy_40 : decode cX7_movedBy 40 = .ok (.ireturn, 1) := by decide +kernel
theorem dX7_trainsOn_0 : decode cX7_trainsOn 0 = .ok (.iconst 0, 1) := by decide +kernel
theorem dX7_trainsOn_1 : decode cX7_trainsOn 1 = .ok (.istore_n 3, 1) := by decide +kernel
theorem dX7_trainsOn_2 : decode cX7_trainsOn 2 = .ok (.iconst 0, 1) := by decide +kernel
theorem dX7_trainsOn_3 : decode cX7_trainsOn 3 = .ok (.istore 4, 2) := by decide +kernel
theorem dX7_trainsOn_5 : decode cX7_trainsOn 5 = .ok (.iload 4, 2) := by decide +kernel
theorem dX7_trainsOn_7 : decode cX7_trainsOn 7 = .ok (.aload_n 0, 1) := by decide +kernel
theorem dX7_trainsOn_8 : decode cX7_trainsOn 8 = .ok (.getfield 19, 3) := by decide +kernel
theorem dX7_trainsOn_11 : decode cX7_trainsOn 11 = .ok (.getfield 109, 3) := by decide +kernel
theorem dX7_trainsOn_14 : decode cX7_trainsOn 14 = .ok (.if_icmp .ge 58, 3) := by decide +kernel
theorem dX7_trainsOn_17 : decode cX7_trainsOn 17 = .ok (.aload_n 0, 1) := by decide +kernel
theorem dX7_trainsOn_18 : decode cX7_trainsOn 18 = .ok (.getfield 26, 3) := by decide +kernel
theorem dX7_trainsOn_21 : decode cX7_trainsOn 21 = .ok (.getfield 144, 3) := by decide +kernel
theorem dX7_trainsOn_24 : decode cX7_trainsOn 24 = .ok (.iload 4, 2) := by decide +kernel
theorem dX7_trainsOn_26 : decode cX7_trainsOn 26 = .ok (.iaload, 1) := by decide +kernel
theorem dX7_trainsOn_27 : decode cX7_trainsOn 27 = .ok (.iload_n 1, 1) := by decide +kernel
theorem dX7_trainsOn_28 : decode cX7_trainsOn 28 = .ok (.if_icmp .ne 38, 3) := by decide +kernel
theorem dX7_trainsOn_31 : decode cX7_trainsOn 31 = .ok (.aload_n 0, 1) := by decide +kernel
theorem dX7_trainsOn_32 : decode cX7_trainsOn 32 = .ok (.getfield 26, 3) := by decide +kernel
theorem dX7_trainsOn_35 : decode cX7_trainsOn 35 = .ok (.getfield 132, 3) := by decide +kernel
theorem dX7_trainsOn_38 : decode cX7_trainsOn 38 = .ok (.iload 4, 2) := by decide +kernel
theorem dX7_trainsOn_40 : decode cX7_trainsOn 40 = .ok (.iaload, 1) := by decide +kernel
theorem dX7_trainsOn_41 : decode cX7_trainsOn 41 = .ok (.iload_n 2, 1) := by decide +kernel
theorem dX7_trainsOn_42 : decode cX7_trainsOn 42 = .ok (.if_icmp .gt 24, 3) := by decide +kernel
theorem dX7_trainsOn_45 : decode cX7_trainsOn 45 = .ok (.iload_n 2, 1) := by decide +kernel
theorem dX7_trainsOn_46 : decode cX7_trainsOn 46 = .ok (.aload_n 0, 1) := by decide +kernel
theorem dX7_trainsOn_47 : decode cX7_trainsOn 47 = .ok (.getfield 26, 3) := by decide +kernel
theorem dX7_trainsOn_50 : decode cX7_trainsOn 50 = .ok (.getfield 135, 3) := by decide +kernel
theorem dX7_trainsOn_53 : decode cX7_trainsOn 53 = .ok (.iload 4, 2) := by decide +kernel
theorem dX7_trainsOn_55 : decode cX7_trainsOn 55 = .ok (.iaload, 1) := by decide +kernel
theorem dX7_trainsOn_56 : decode cX7_trainsOn 56 = .ok (.if_icmp .gt 10, 3) := by decide +kernel
theorem dX7_trainsOn_59 : decode cX7_trainsOn 59 = .ok (.iload_n 3, 1) := by decide +kernel
theorem dX7_trainsOn_60 : decode cX7_trainsOn 60 = .ok (.iconst 1, 1) := by decide +kernel
theorem dX7_trainsOn_61 : decode cX7_trainsOn 61 = .ok (.iload 4, 2) := by decide +kernel
theorem dX7_trainsOn_63 : decode cX7_trainsOn 63 = .ok (.ishl, 1) := by decide +kernel
theorem dX7_trainsOn_64 : decode cX7_trainsOn 64 = .ok (.ior, 1) := by decide +kernel
theorem dX7_trainsOn_65 : decode cX7_trainsOn 65 = .ok (.istore_n 3, 1) := by decide +kernel
theorem dX7_trainsOn_66 : decode cX7_trainsOn 66 = .ok (.iinc 4 1, 3) := by decide +kernel
theorem dX7_trainsOn_69 : decode cX7_trainsOn 69 = .ok (.goto (-64), 3) := by decide +kernel
theorem dX7_trainsOn_72 : decode cX7_trainsOn 72 = .ok (.iload_n 3, 1) := by decide +kernel
theorem dX7_trainsOn_73 : decode cX7_trainsOn 73 = .ok (.ireturn, 1) := by decide +kernel
theorem dX7_switchesIn_0 : decode cX7_switchesIn 0 = .ok (.iconst 0, 1) := by decide +kernel
theorem dX7_switchesIn_1 : decode cX7_switchesIn 1 = .ok (.istore_n 2, 1) := by decide +kernel
theorem dX7_switchesIn_2 : decode cX7_switchesIn 2 = .ok (.iconst 0, 1) := by decide +kernel
theorem dX7_switchesIn_3 : decode cX7_switchesIn 3 = .ok (.istore_n 3, 1) := by decide +kernel
theorem dX7_switchesIn_4 : decode cX7_switchesIn 4 = .ok (.iload_n 3, 1) := by decide +kernel
theorem dX7_switchesIn_5 : decode cX7_switchesIn 5 = .ok (.aload_n 0, 1) := by decide +kernel
theorem dX7_switchesIn_6 : decode cX7_switchesIn 6 = .ok (.getfield 19, 3) := by decide +kernel
theorem dX7_switchesIn_9 : decode cX7_switchesIn 9 = .ok (.getfield 109, 3) := by decide +kernel
theorem dX7_switchesIn_12 : decode cX7_switchesIn 12 = .ok (.if_icmp .ge 84, 3) := by decide +kernel
theorem dX7_switchesIn_15 : decode cX7_switchesIn 15 = .ok (.aload_n 0, 1) := by decide +kernel
theorem dX7_switchesIn_16 : decode cX7_switchesIn 16 = .ok (.getfield 26, 3) := by decide +kernel
theorem dX7_switchesIn_19 : decode cX7_switchesIn 19 = .ok (.getfield 144, 3) := by decide +kernel
theorem dX7_switchesIn_22 : decode cX7_switchesIn 22 = .ok (.iload_n 3, 1) := by decide +kernel
theorem dX7_switchesIn_23 : decode cX7_switchesIn 23 = .ok (.iaload, 1) := by decide +kernel
theorem dX7_switchesIn_24 : decode cX7_switchesIn 24 = .ok (.istore 4, 2) := by decide +kernel
theorem dX7_switchesIn_26 : decode cX7_switchesIn 26 = .ok (.iload 4, 2) := by decide +kernel
theorem dX7_switchesIn_28 : decode cX7_switchesIn 28 = .ok (.bipush (-4), 2) := by decide +kernel
theorem dX7_switchesIn_30 : decode cX7_switchesIn 30 = .ok (.if_icmp .eq 28, 3) := by decide +kernel
theorem dX7_switchesIn_33 : decode cX7_switchesIn 33 = .ok (.aload_n 0, 1) := by decide +kernel
theorem dX7_switchesIn_34 : decode cX7_switchesIn 34 = .ok (.getfield 26, 3) := by decide +kernel
theorem dX7_switchesIn_37 : decode cX7_switchesIn 37 = .ok (.iload_n 3, 1) := by decide +kernel
theorem dX7_switchesIn_38 : decode cX7_switchesIn 38 = .ok (.iload_n 1, 1) := by decide +kernel
theorem dX7_switchesIn_39 : decode cX7_switchesIn 39 = .ok (.invokevirtual 227, 3) := by decide +kernel
theorem dX7_switchesIn_42 : decode cX7_switchesIn 42 = .ok (.ifCond .eq 16, 3) := by decide +kernel
theorem dX7_switchesIn_45 : decode cX7_switchesIn 45 = .ok (.iload_n 2, 1) := by decide +kernel
theorem dX7_switchesIn_46 : decode cX7_switchesIn 46 = .ok (.aload_n 0, 1) := by decide +kernel
theorem dX7_switchesIn_47 : decode cX7_switchesIn 47 = .ok (.getfield 19, 3) := by decide +kernel
theorem dX7_switchesIn_50 : decode cX7_switchesIn 50 = .ok (.iload_n 3, 1) := by decide +kernel
theorem dX7_switchesIn_51 : decode cX7_switchesIn 51 = .ok (.iload 4, 2) := by decide +kernel
theorem dX7_switchesIn_53 : decode cX7_switchesIn 53 = .ok (.invokevirtual 170, 3) := by decide +kernel
theorem dX7_switchesIn_56 : decode cX7_switchesIn 56 = .ok (.ior, 1) := by decide +kernel
theorem dX7_switchesIn_57 : decode cX7_switchesIn 57 = .ok (.istore_n 2, 1) := by decide +kernel
theorem dX7_switchesIn_58 : decode cX7_switchesIn 58 = .ok (.iload 4, 2) := by decide +kernel
theorem dX7_switchesIn_60 : decode cX7_switchesIn 60 = .ok (.bipush (-4), 2) := by decide +kernel
theorem dX7_switchesIn_62 : decode cX7_switchesIn 62 = .ok (.if_icmp .eq 28, 3) := by decide +kernel
theorem dX7_switchesIn_65 : decode cX7_switchesIn 65 = .ok (.aload_n 0, 1) := by decide +kernel
theorem dX7_switchesIn_66 : decode cX7_switchesIn 66 = .ok (.getfield 26, 3) := by decide +kernel
theorem dX7_switchesIn_69 : decode cX7_switchesIn 69 = .ok (.iload_n 3, 1) := by decide +kernel
theorem dX7_switchesIn_70 : decode cX7_switchesIn 70 = .ok (.iload_n 1, 1) := by decide +kernel
theorem dX7_switchesIn_71 : decode cX7_switchesIn 71 = .ok (.invokevirtual 230, 3) := by decide +kernel
theorem dX7_switchesIn_74 : decode cX7_switchesIn 74 = .ok (.ifCond .eq 16, 3) := by decide +kernel
theorem dX7_switchesIn_77 : decode cX7_switchesIn 77 = .ok (.iload_n 2, 1) := by decide +kernel
theorem dX7_switchesIn_78 : decode cX7_switchesIn 78 = .ok (.aload_n 0, 1) := by decide +kernel
theorem dX7_switchesIn_79 : decode cX7_switchesIn 79 = .ok (.getfield 19, 3) := by decide +kernel
theorem dX7_switchesIn_82 : decode cX7_switchesIn 82 = .ok (.iload_n 3, 1) := by decide +kernel
theorem dX7_switchesIn_83 : decode cX7_switchesIn 83 = .ok (.iload 4, 2) := by decide +kernel
theorem dX7_switchesIn_85 : decode cX7_switchesIn 85 = .ok (.invokevirtual 173, 3) := by decide +kernel
theorem dX7_switchesIn_88 : decode cX7_switchesIn 88 = .ok (.ior, 1) := by decide +kernel
theorem dX7_switchesIn_89 : decode cX7_switchesIn 89 = .ok (.istore_n 2, 1) := by decide +kernel
theorem dX7_switchesIn_90 : decode cX7_switchesIn 90 = .ok (.iinc 3 1, 3) := by decide +kernel
theorem dX7_switchesIn_93 : decode cX7_switchesIn 93 = .ok (.goto (-89), 3) := by decide +kernel
theorem dX7_switchesIn_96 : decode cX7_switchesIn 96 = .ok (.iload_n 2, 1) := by decide +kernel
theorem dX7_switchesIn_97 : decode cX7_switchesIn 97 = .ok (.ireturn, 1) := by decide +kernel
theorem dX7_minutesOfTrack_0 : decode cX7_minutesOfTrack 0 = .ok (.iconst 0, 1) := by decide +kernel
theorem dX7_minutesOfTrack_1 : decode cX7_minutesOfTrack 1 = .ok (.istore_n 2, 1) := by decide +kernel
theorem dX7_minutesOfTrack_2 : decode cX7_minutesOfTrack 2 = .ok (.iconst 0, 1) := by decide +kernel
theorem dX7_minutesOfTrack_3 : decode cX7_minutesOfTrack 3 = .ok (.istore_n 3, 1) := by decide +kernel
theorem dX7_minutesOfTrack_4 : decode cX7_minutesOfTrack 4 = .ok (.iload_n 3, 1) := by decide +kernel
theorem dX7_minutesOfTrack_5 : decode cX7_minutesOfTrack 5 = .ok (.bipush 100, 2) := by decide +kernel
theorem dX7_minutesOfTrack_7 : decode cX7_minutesOfTrack 7 = .ok (.if_icmp .ge 21, 3) := by decide +kernel
theorem dX7_minutesOfTrack_10 : decode cX7_minutesOfTrack 10 = .ok (.aload_n 0, 1) := by decide +kernel
theorem dX7_minutesOfTrack_11 : decode cX7_minutesOfTrack 11 = .ok (.iload_n 1, 1) := by decide +kernel
theorem dX7_minutesOfTrack_12 : decode cX7_minutesOfTrack 12 = .ok (.iload_n 3, 1) := by decide +kernel
theorem dX7_minutesOfTrack_13 : decode cX7_minutesOfTrack 13 = .ok (.invokevirtual 212, 3) := by decide +kernel
theorem dX7_minutesOfTrack_16 : decode cX7_minutesOfTrack 16 = .ok (.ifCond .eq 6, 3) := by decide +kernel
theorem dX7_minutesOfTrack_19 : decode cX7_minutesOfTrack 19 = .ok (.iinc 2 1, 3) := by decide +kernel
theorem dX7_minutesOfTrack_22 : decode cX7_minutesOfTrack 22 = .ok (.iinc 3 1, 3) := by decide +kernel
theorem dX7_minutesOfTrack_25 : decode cX7_minutesOfTrack 25 = .ok (.goto (-21), 3) := by decide +kernel
theorem dX7_minutesOfTrack_28 : decode cX7_minutesOfTrack 28 = .ok (.iload_n 2, 1) := by decide +kernel
theorem dX7_minutesOfTrack_29 : decode cX7_minutesOfTrack 29 = .ok (.ireturn, 1) := by decide +kernel
theorem dX7_minutesOfSwitch_0 : decode cX7_minutesOfSwitch 0 = .ok (.iconst 0, 1) := by decide +kernel
theorem dX7_minutesOfSwitch_1 : decode cX7_minutesOfSwitch 1 = .ok (.istore_n 2, 1) := by decide +kernel
theorem dX7_minutesOfSwitch_2 : decode cX7_minutesOfSwitch 2 = .ok (.iconst 0, 1) := by decide +kernel
theorem dX7_minutesOfSwitch_3 : decode cX7_minutesOfSwitch 3 = .ok (.istore_n 3, 1) := by decide +kernel
theorem dX7_minutesOfSwitch_4 : decode cX7_minutesOfSwitch 4 = .ok (.iload_n 3, 1) := by decide +kernel
theorem dX7_minutesOfSwitch_5 : decode cX7_minutesOfSwitch 5 = .ok (.bipush 100, 2) := by decide +kernel
theorem dX7_minutesOfSwitch_7 : decode cX7_minutesOfSwitch 7 = .ok (.if_icmp .ge 24, 3) := by decide +kernel
theorem dX7_minutesOfSwitch_10 : decode cX7_minutesOfSwitch 10 = .ok (.aload_n 0, 1) := by decide +kernel
theorem dX7_minutesOfSwitch_11 : decode cX7_minutesOfSwitch 11 = .ok (.iload_n 3, 1) := by decide +kernel
theorem dX7_minutesOfSwitch_12 : decode cX7_minutesOfSwitch 12 = .ok (.invokevirtual 215, 3) := by decide +kernel
theorem dX7_minutesOfSwitch_15 : decode cX7_minutesOfSwitch 15 = .ok (.iload_n 1, 1) := by decide +kernel
theorem dX7_minutesOfSwitch_16 : decode cX7_minutesOfSwitch 16 = .ok (.ishr, 1) := by decide +kernel
theorem dX7_minutesOfSwitch_17 : decode cX7_minutesOfSwitch 17 = .ok (.iconst 1, 1) := by decide +kernel
theorem dX7_minutesOfSwitch_18 : decode cX7_minutesOfSwitch 18 = .ok (.iand, 1) := by decide +kernel
theorem dX7_minutesOfSwitch_19 : decode cX7_minutesOfSwitch 19 = .ok (.ifCond .eq 6, 3) := by decide +kernel
theorem dX7_minutesOfSwitch_22 : decode cX7_minutesOfSwitch 22 = .ok (.iinc 2 1, 3) := by decide +kernel
theorem dX7_minutesOfSwitch_25 : decode cX7_minutesOfSwitch 25 = .ok (.iinc 3 1, 3) := by decide +kernel
theorem dX7_minutesOfSwitch_28 : decode cX7_minutesOfSwitch 28 = .ok (.goto (-24), 3) := by decide +kernel
theorem dX7_minutesOfSwitch_31 : decode cX7_minutesOfSwitch 31 = .ok (.iload_n 2, 1) := by decide +kernel
theorem dX7_minutesOfSwitch_32 : decode cX7_minutesOfSwitch 32 = .ok (.ireturn, 1) := by decide +kernel
theorem dX8_init_0 : decode cX8_init 0 = .ok (.aload_n 0, 1) := by decide +kernel
theorem dX8_init_1 : decode cX8_init 1 = .ok (.invokespecial 1, 3) := by decide +kernel
theorem dX8_init_4 : decode cX8_init 4 = .ok (.aload_n 0, 1) := by decide +kernel
theorem dX8_init_5 : decode cX8_init 5 = .ok (.bipush 65, 2) := by decide +kernel
theorem dX8_init_7 : decode cX8_init 7 = .ok (.newarray .int, 2) := by decide +kernel
theorem dX8_init_9 : decode cX8_init 9 = .ok (.putfield 7, 3) := by decide +kernel
theorem dX8_init_12 : decode cX8_init 12 = .ok (.aload_n 0, 1) := by decide +kernel
theorem dX8_init_13 : decode cX8_init 13 = .ok (.bipush 65, 2) := by decide +kernel
theorem dX8_init_15 : decode cX8_init 15 = .ok (.newarray .int, 2) := by decide +kernel
theorem dX8_init_17 : decode cX8_init 17 = .ok (.putfield 13, 3) := by decide +kernel
theorem dX8_init_20 : decode cX8_init 20 = .ok (.aload_n 0, 1) := by decide +kernel
theorem dX8_init_21 : decode cX8_init 21 = .ok (.sipush 390, 3) := by decide +kernel
theorem dX8_init_24 : decode cX8_init 24 = .ok (.newarray .int, 2) := by decide +kernel
theorem dX8_init_26 : decode cX8_init 26 = .ok (.putfield 16, 3) := by decide +kernel
theorem dX8_init_29 : decode cX8_init 29 = .ok (.aload_n 0, 1) := by decide +kernel
theorem dX8_init_30 : decode cX8_init 30 = .ok (.sipush 200, 3) := by decide +kernel
theorem dX8_init_33 : decode cX8_init 33 = .ok (.newarray .int, 2) := by decide +kernel
theorem dX8_init_35 : decode cX8_init 35 = .ok (.putfield 19, 3) := by decide +kernel
theorem dX8_init_38 : decode cX8_init 38 = .ok (.aload_n 0, 1) := by decide +kernel
theorem dX8_init_39 : decode cX8_init 39 = .ok (.bipush 6, 2) := by decide +kernel
theorem dX8_init_41 : decode cX8_init 41 = .ok (.newarray .int, 2) := by decide +kernel
theorem dX8_init_43 : decode cX8_init 43 = .ok (.putfield 22, 3) := by decide +kernel
theorem dX8_init_46 : decode cX8_init 46 = .ok (.aload_n 0, 1) := by decide +kernel
theorem dX8_init_47 : decode cX8_init 47 = .ok (.bipush 28, 2) := by decide +kernel
theorem dX8_init_49 : decode cX8_init 49 = .ok (.newarray .boolean, 2) := by decide +kernel
theorem dX8_init_51 : decode cX8_init 51 = .ok (.putfield 25, 3) := by decide +kernel
theorem dX8_init_54 : decode cX8_init 54 = .ok (.aload_n 0, 1) := by decide +kernel
theorem dX8_init_55 : decode cX8_init 55 = .ok (.sipush 784, 3) := by decide +kernel
theorem dX8_init_58 : decode cX8_init 58 = .ok (.newarray .boolean, 2) := by decide +kernel
theorem dX8_init_60 : decode cX8_init 60 = .ok (.putfield 29, 3) := by decide +kernel
theorem dX8_init_63 : decode cX8_init 63 = .ok (.aload_n 0, 1) := by decide +kernel
theorem dX8_init_64 : decode cX8_init 64 = .ok (.bipush 7, 2) := by decide +kernel
theorem dX8_init_66 : decode cX8_init 66 = .ok (.newarray .int, 2) := by decide +kernel
theorem dX8_init_68 : decode cX8_init 68 = .ok (.putfield 32, 3) := by decide +kernel
theorem dX8_init_71 : decode cX8_init 71 = .ok (.aload_n 0, 1) := by decide +kernel
theorem dX8_init_72 : decode cX8_init 72 = .ok (.bipush 7, 2) := by decide +kernel
theorem dX8_init_74 : decode cX8_init 74 = .ok (.newarray .int, 2) := by decide +kernel
theorem dX8_init_76 : decode cX8_init 76 = .ok (.putfield 35, 3) := by decide +kernel
theorem dX8_init_79 : decode cX8_init 79 = .ok (.aload_n 0, 1) := by decide +kernel
theorem dX8_init_80 : decode cX8_init 80 = .ok (.invokevirtual 38, 3) := by decide +kernel
theorem dX8_init_83 : decode cX8_init 83 = .ok (.aload_n 0, 1) := by decide +kernel
theorem dX8_init_84 : decode cX8_init 84 = .ok (.getfield 13, 3) := by decide +kernel
theorem dX8_init_87 : decode cX8_init 87 = .ok (.iconst 0, 1) := by decide +kernel
theorem dX8_init_88 : decode cX8_init 88 = .ok (.iconst 2, 1) := by decide +kernel
theorem dX8_init_89 : decode cX8_init 89 = .ok (.iastore, 1) := by decide +kernel
theorem dX8_init_90 : decode cX8_init 90 = .ok (.aload_n 0, 1) := by decide +kernel
theorem dX8_init_91 : decode cX8_init 91 = .ok (.getfield 13, 3) := by decide +kernel
theorem dX8_init_94 : decode cX8_init 94 = .ok (.iconst 1, 1) := by decide +kernel
theorem dX8_init_95 : decode cX8_init 95 = .ok (.iconst 3, 1) := by decide +kernel
theorem dX8_init_96 : decode cX8_init 96 = .ok (.iastore, 1) := by decide +kernel
theorem dX8_init_97 : decode cX8_init 97 = .ok (.aload_n 0, 1) := by decide +kernel
theorem dX8_init_98 : decode cX8_init 98 = .ok (.getfield 13, 3) := by decide +kernel
theorem dX8_init_101 : decode cX8_init 101 = .ok (.iconst 3, 1) := by decide +kernel
theorem dX8_init_102 : decode cX8_init 102 = .ok (.iconst 1, 1) := by decide +kernel
theorem dX8_init_103 : decode cX8_init 103 = .ok (.iastore, 1) := by decide +kernel
theorem dX8_init_104 : decode cX8_init 104 = .ok (.aload_n 0, 1) := by decide +kernel
theorem dX8_init_105 : decode cX8_init 105 = .ok (.getfield 13, 3) := by decide +kernel
theorem dX8_init_108 : decode cX8_init 108 = .ok (.iconst 4, 1) := by decide +kernel
theorem dX8_init_109 : decode cX8_init 109 = .ok (.iconst 2, 1) := by decide +kernel
theorem dX8_init_110 : decode cX8_init 110 = .ok (.iastore, 1) := by decide +kernel
theorem dX8_init_111 : decode cX8_init 111 = .ok (.aload_n 0, 1) := by decide +kernel
theorem dX8_init_112 : decode cX8_init 112 = .ok (.getfield 13, 3) := by decide +kernel
theorem dX8_init_115 : decode cX8_init 115 = .ok (.iconst 5, 1) := by decide +kernel
theorem dX8_init_116 : decode cX8_init 116 = .ok (.bipush 6, 2) := by decide +kernel
theorem dX8_init_118 : decode cX8_init 118 = .ok (.iastore, 1) := by decide +kernel
theorem dX8_init_119 : decode cX8_init 119 = .ok (.aload_n 0, 1) := by decide +kernel
theorem dX8_init_120 : decode cX8_init 120 = .ok (.getfield 13, 3) := by decide +kernel
theorem dX8_init_123 : decode cX8_init 123 = .ok (.bipush 6, 2) := by decide +kernel
theorem dX8_init_125 : decode cX8_init 125 = .ok (.bipush 14, 2) := by decide +kernel
theorem dX8_init_127 : decode cX8_init 127 = .ok (.iastore, 1) := by decide +kernel
theorem dX8_init_128 : decode cX8_init 128 = .ok (.aload_n 0, 1) := by decide +kernel
theorem dX8_init_129 : decode cX8_init 129 = .ok (.getfield 13, 3) := by decide +kernel
theorem dX8_init_132 : decode cX8_init 132 = .ok (.bipush 8, 2) := by decide +kernel
theorem dX8_init_134 : decode cX8_init 134 = .ok (.bipush 48, 2) := by decide +kernel
theorem dX8_init_136 : decode cX8_init 136 = .ok (.iastore, 1) := by decide +kernel
theorem dX8_init_137 : decode cX8_init 137 = .ok (.aload_n 0, 1) := by decide +kernel
theorem dX8_init_138 : decode cX8_init 138 = .ok (.getfield 13, 3) := by decide +kernel
theorem dX8_init_141 : decode cX8_init 141 = .ok (.bipush 9, 2) := by decide +kernel
theorem dX8_init_143 : decode cX8_init 143 = .ok (.bipush 16, 2) := by decide +kernel
theorem dX8_init_145 : decode cX8_init 145 = .ok (.iastore, 1) := by decide +kernel
theorem dX8_init_146 : decode cX8_init 146 = .ok (.aload_n 0, 1) := by decide +kernel
theorem dX8_init_147 : decode cX8_init 147 = .ok (.getfield 13, 3) := by decide +kernel
theorem dX8_init_150 : decode cX8_init 150 = .ok (.bipush 10, 2) := by decide +kernel
theorem dX8_init_152 : decode cX8_init 152 = .ok (.bipush 8, 2) := by decide +kernel
theorem dX8_init_154 : decode cX8_init 154 = .ok (.iastore, 1) := by decide +kernel
theorem dX8_init_155 : decode cX8_init 155 = .ok (.aload_n 0, 1) := by decide +kernel
theorem dX8_init_156 : decode cX8_init 156 = .ok (.iconst 0, 1) := by decide +kernel
theorem dX8_init_157 : decode cX8_init 157 = .ok (.iconst 1, 1) := by decide +kernel
theorem dX8_init_158 : decode cX8_init 158 = .ok (.bipush 10, 2) := by decide +kernel
theorem dX8_init_160 : decode cX8_init 160 = .ok (.bipush 20, 2) := by decide +kernel
theorem dX8_init_162 : decode cX8_init 162 = .ok (.iconst 1, 1) := by decide +kernel
theorem dX8_init_163 : decode cX8_init 163 = .ok (.invokevirtual 41, 3) := by decide +kernel
theorem dX8_init_166 : decode cX8_init 166 = .ok (.aload_n 0, 1) := by decide +kernel
theorem dX8_init_167 : decode cX8_init 167 = .ok (.iconst 1, 1) := by decide +kernel
theorem dX8_init_168 : decode cX8_init 168 = .ok (.iconst 0, 1) := by decide +kernel
theorem dX8_init_169 : decode cX8_init 169 = .ok (.bipush 12, 2) := by decide +kernel
theorem dX8_init_171 : decode cX8_init 171 = .ok (.bipush 18, 2) := by decide +kernel
theorem dX8_init_173 : decode cX8_init 173 = .ok (.bipush (-4), 2) := by decide +kernel
theorem dX8_init_175 : decode cX8_init 175 = .ok (.invokevirtual 41, 3) := by decide +kernel
theorem dX8_init_178 : decode cX8_init 178 = .ok (.aload_n 0, 1) := by decide +kernel
theorem dX8_init_179 : decode cX8_init 179 = .ok (.iconst 0, 1) := by decide +kernel
theorem dX8_init_180 : decode cX8_init 180 = .ok (.iconst 0, 1) := by decide +kernel
theorem dX8_init_181 : decode cX8_init 181 = .ok (.bipush 15, 2) := by decide +kernel
theorem dX8_init_183 : decode cX8_init 183 = .ok (.bipush 25, 2) := by decide +kernel
theorem dX8_init_185 : decode cX8_init 185 = .ok (.iconst 1, 1) := by decide +kernel
theorem dX8_init_186 : decode cX8_init 186 = .ok (.invokevirtual 41, 3) := by decide +kernel
theorem dX8_init_189 : decode cX8_init 189 = .ok (.aload_n 0, 1) := by decide +kernel
theorem dX8_init_190 : decode cX8_init 190 = .ok (.iconst 1, 1) := by decide +kernel
theorem dX8_init_191 : decode cX8_init 191 = .ok (.iconst 1, 1) := by decide +kernel
theorem dX8_init_192 : decode cX8_init 192 = .ok (.bipush 22, 2) := by decide +kernel
theorem dX8_init_194 : decode cX8_init 194 = .ok (.bipush 30, 2) := by decide +kernel
theorem dX8_init_196 : decode cX8_init 196 = .ok (.iconst 0, 1) := by decide +kernel
theorem dX8_init_197 : decode cX8_init 197 = .ok (.invokevirtual 41, 3) := by decide +kernel
theorem dX8_init_200 : decode cX8_init 200 = .ok (.aload_n 0, 1) := by decide +kernel
theorem dX8_init_201 : decode cX8_init 201 = .ok (.invokevirtual 45, 3) := by decide +kernel
theorem dX8_init_204 : decode cX8_init 204 = .ok (.return_, 1) := by decide +kernel
theorem dX8_in_0 : decode cX8_in 0 = .ok (.iload_n 0, 1) := by decide +kernel
theorem dX8_in_1 : decode cX8_in 1 = .ok (.iload_n 1, 1) := by decide +kernel
theorem dX8_in_2 : decode cX8_in 2 = .ok (.if_icmp .lt 12, 3) := by decide +kernel
theorem dX8_in_5 : decode cX8_in 5 = .ok (.iload_n 0, 1) := by decide +kernel
theorem dX8_in_6 : decode cX8_in 6 = .ok (.iload_n 2, 1) := by decide +kernel
theorem dX8_in_7 : decode cX8_in 7 = .ok (.if_icmp .gt 7, 3) := by decide +kernel
theorem dX8_in_10 : decode cX8_in 10 = .ok (.iconst 1, 1) := by decide +kernel
theorem dX8_in_11 : decode cX8_in 11 = .ok (.goto 4, 3) := by decide +kernel
theorem dX8_in_14 : decode cX8_in 14 = .ok (.iconst 0, 1) := by decide +kernel
theorem dX8_in_15 : decode cX8_in 15 = .ok (.ireturn, 1) := by decide +kernel
theorem dX8_begins_0 : decode cX8_begins 0 = .ok (.iconst 0, 1) := by decide +kernel
theorem dX8_begins_1 : decode cX8_begins 1 = .ok (.istore_n 1, 1) := by decide +kernel
theorem dX8_begins_2 : decode cX8_begins 2 = .ok (.iload_n 1, 1) := by decide +kernel
theorem dX8_begins_3 : decode cX8_begins 3 = .ok (.bipush 65, 2) := by decide +kernel
theorem dX8_begins_5 : decode cX8_begins 5 = .ok (.if_icmp .ge 32, 3) := by decide +kernel
theorem dX8_begins_8 : decode cX8_begins 8 = .ok (.aload_n 0, 1) := by decide +kernel
theorem dX8_begins_9 : decode cX8_begins 9 = .ok (.getfield 13, 3) := by decide +kernel
theorem dX8_begins_12 : decode cX8_begins 12 = .ok (.iload_n 1, 1) := by decide +kernel
theorem dX8_begins_13 : decode cX8_begins 13 = .ok (.iload_n 1, 1) := by decide +kernel
theorem dX8_begins_14 : decode cX8_begins 14 = .ok (.iconst 4, 1) := by decide +kernel
theorem dX8_begins_15 : decode cX8_begins 15 = .ok (.if_icmp .lt 14, 3) := by decide +kernel
theorem dX8_begins_18 : decode cX8_begins 18 = .ok (.iload_n 1, 1) := by decide +kernel
theorem dX8_begins_19 : decode cX8_begins 19 = .ok (.bipush 16, 2) := by decide +kernel
theorem dX8_begins_21 : decode cX8_begins 21 = .ok (.if_icmp .ge 8, 3) := by decide +kernel
theorem dX8_begins_24 : decode cX8_begins 24 = .ok (.bipush (-4), 2) := by decide +kernel
theorem dX8_begins_26 : decode cX8_begins 26 = .ok (.goto 4, 3) := by decide +kernel
theorem dX8_begins_29 : decode cX8_begins 29 = .ok (.iconst 0, 1) := by decide +kernel
theorem dX8_begins_30 : decode cX8_begins 30 = .ok (.iastore, 1) := by decide +kernel
theorem dX8_begins_31 : decode cX8_begins 31 = .ok (.iinc 1 1, 3) := by decide +kernel
theorem dX8_begins_34 : decode cX8_begins 34 = .ok (.goto (-32), 3) := by decide +kernel
theorem dX8_begins_37 : decode cX8_begins 37 = .ok (.aload_n 0, 1) := by decide +kernel
theorem dX8_begins_38 : decode cX8_begins 38 = .ok (.getfield 13, 3) := by decide +kernel
theorem dX8_begins_41 : decode cX8_begins 41 = .ok (.iconst 3, 1) := by decide +kernel
theorem dX8_begins_42 : decode cX8_begins 42 = .ok (.iconst 1, 1) := by decide +kernel
theorem dX8_begins_43 : decode cX8_begins 43 = .ok (.iastore, 1) := by decide +kernel
theorem dX8_begins_44 : decode cX8_begins 44 = .ok (.return_, 1) := by decide +kernel
theorem dX8_comes_0 : decode cX8_comes 0 = .ok (.bipush 16, 2) := by decide +kernel
theorem dX8_comes_2 : decode cX8_comes 2 = .ok (.bipush 7, 2) := by decide +kernel
theorem dX8_comes_4 : decode cX8_comes 4 = .ok (.aload_n 0, 1) := by decide +kernel
theorem dX8_comes_5 : decode cX8_comes 5 = .ok (.getfield 13, 3) := by decide +kernel
theorem dX8_comes_8 : decode cX8_comes 8 = .ok (.iconst 2, 1) := by decide +kernel
theorem dX8_comes_9 : decode cX8_comes 9 = .ok (.iaload, 1) := by decide +kernel
theorem dX8_comes_10 : decode cX8_comes 10 = .ok (.imul, 1) := by decide +kernel
theorem dX8_comes_11 : decode cX8_comes 11 = .ok (.iadd, 1) := by decide +kernel
theorem dX8_comes_12 : decode cX8_comes 12 = .ok (.istore 6, 2) := by decide +kernel
theorem dX8_comes_14 : decode cX8_comes 14 = .ok (.aload_n 0, 1) := by decide +kernel
theorem dX8_comes_15 : decode cX8_comes 15 = .ok (.getfield 13, 3) := by decide +kernel
theorem dX8_comes_18 : decode cX8_comes 18 = .ok (.iload 6, 2) := by decide +kernel
theorem dX8_comes_20 : decode cX8_comes 20 = .ok (.iconst 0, 1) := by decide +kernel
theorem dX8_comes_21 : decode cX8_comes 21 = .ok (.iadd, 1) := by decide +kernel
theorem dX8_comes_22 : decode cX8_comes 22 = .ok (.iload_n 1, 1) := by decide +kernel
theorem dX8_comes_23 : decode cX8_comes 23 = .ok (.iastore, 1) := by decide +kernel
theorem dX8_comes_24 : decode cX8_comes 24 = .ok (.aload_n 0, 1) := by decide +kernel
theorem dX8_comes_25 : decode cX8_comes 25 = .ok (.getfield 13, 3) := by decide +kernel
theorem dX8_comes_28 : decode cX8_comes 28 = .ok (.iload 6, 2) := by decide +kernel
theorem dX8_comes_30 : decode cX8_comes 30 = .ok (.iconst 1, 1) := by decide +kernel
theorem dX8_comes_31 : decode cX8_comes 31 = .ok (.iadd, 1) := by decide +kernel
theorem dX8_comes_32 : decode cX8_comes 32 = .ok (.iload_n 2, 1) := by decide +kernel
theorem dX8_comes_33 : decode cX8_comes 33 = .ok (.iastore, 1) := by decide +kernel
theorem dX8_comes_34 : decode cX8_comes 34 = .ok (.aload_n 0, 1) := by decide +kernel
theorem dX8_comes_35 : decode cX8_comes 35 = .ok (.getfield 13, 3) := by decide +kernel
theorem dX8_comes_38 : decode cX8_comes 38 = .ok (.iload 6, 2) := by decide +kernel
theorem dX8_comes_40 : decode cX8_comes 40 = .ok (.iconst 2, 1) := by decide +kernel
theorem dX8_comes_41 : decode cX8_comes 41 = .ok (.iadd, 1) := by decide +kernel
theorem dX8_comes_42 : decode cX8_comes 42 = .ok (.iload_n 3, 1) := by decide +kernel
theorem dX8_comes_43 : decode cX8_comes 43 = .ok (.iastore, 1) := by decide +kernel
theorem dX8_comes_44 : decode cX8_comes 44 = .ok (.aload_n 0, 1) := by decide +kernel
theorem dX8_comes_45 : decode cX8_comes 45 = .ok (.getfield 13, 3) := by decide +kernel
theorem dX8_comes_48 : decode cX8_comes 48 = .ok (.iload 6, 2) := by decide +kernel
theorem dX8_comes_50 : decode cX8_comes 50 = .ok (.iconst 3, 1) := by decide +kernel
theorem dX8_comes_51 : decode cX8_comes 51 = .ok (.iadd, 1) := by decide +kernel
theorem dX8_comes_52 : decode cX8_comes 52 = .ok (.iload 4, 2) := by decide +kernel
theorem dX8_comes_54 : decode cX8_comes 54 = .ok (.iastore, 1) := by decide +kernel
theorem dX8_comes_55 : decode cX8_comes 55 = .ok (.aload_n 0, 1) := by decide +kernel
theorem dX8_comes_56 : decode cX8_comes 56 = .ok (.getfield 13, 3) := by decide +kernel
theorem dX8_comes_59 : decode cX8_comes 59 = .ok (.iload 6, 2) := by decide +kernel
theorem dX8_comes_61 : decode cX8_comes 61 = .ok (.iconst 4, 1) := by decide +kernel
theorem dX8_comes_62 : decode cX8_comes 62 = .ok (.iadd, 1) := by decide +kernel
theorem dX8_comes_63 : decode cX8_comes 63 = .ok (.iload 5, 2) := by decide +kernel
theorem dX8_comes_65 : decode cX8_comes 65 = .ok (.iastore, 1) := by decide +kernel
theorem dX8_comes_66 : decode cX8_comes 66 = .ok (.aload_n 0, 1) := by decide +kernel
theorem dX8_comes_67 : decode cX8_comes 67 = .ok (.getfield 13, 3) := by decide +kernel
theorem dX8_comes_70 : decode cX8_comes 70 = .ok (.iload 6, 2) := by decide +kernel
theorem dX8_comes_72 : decode cX8_comes 72 = .ok (.iconst 5, 1) := by decide +kernel
theorem dX8_comes_73 : decode cX8_comes 73 = .ok (.iadd, 1) := by decide +kernel
theorem dX8_comes_74 : decode cX8_comes 74 = .ok (.bipush (-4), 2) := by decide +kernel
theorem dX8_comes_76 : decode cX8_comes 76 = .ok (.iastore, 1) := by decide +kernel
theorem dX8_comes_77 : decode cX8_comes 77 = .ok (.aload_n 0, 1) := by decide +kernel
theorem dX8_comes_78 : decode cX8_comes 78 = .ok (.getfield 13, 3) := by decide +kernel
theorem dX8_comes_81 : decode cX8_comes 81 = .ok (.iload 6, 2) := by decide +kernel
theorem dX8_comes_83 : decode cX8_comes 83 = .ok (.bipush 6, 2) := by decide +kernel
theorem dX8_comes_85 : decode cX8_comes 85 = .ok (.iadd, 1) := by decide +kernel
theorem dX8_comes_86 : decode cX8_comes 86 = .ok (.bipush (-4), 2) := by decide +kernel
theorem dX8_comes_88 : decode cX8_comes 88 = .ok (.iastore, 1) := by decide +kernel
theorem dX8_comes_89 : decode cX8_comes 89 = .ok (.aload_n 0, 1) := by decide +kernel
theorem dX8_comes_90 : decode cX8_comes 90 = .ok (.getfield 13, 3) := by decide +kernel
theorem dX8_comes_93 : decode cX8_comes 93 = .ok (.iconst 2, 1) := by decide +kernel
theorem dX8_comes_94 : decode cX8_comes 94 = .ok (.dup2, 1) := by decide +kernel
theorem dX8_comes_95 : decode cX8_comes 95 = .ok (.iaload, 1) := by decide +kernel
theorem dX8_comes_96 : decode cX8_comes 96 = .ok (.iconst 1, 1) := by decide +kernel
theorem dX8_comes_97 : decode cX8_comes 97 = .ok (.iadd, 1) := by decide +kernel
theorem dX8_comes_98 : decode cX8_comes 98 = .ok (.iastore, 1) := by decide +kernel
theorem dX8_comes_99 : decode cX8_comes 99 = .ok (.return_, 1) := by decide +kernel
theorem dX8_takesAll_0 : decode cX8_takesAll 0 = .ok (.iconst 0, 1) := by decide +kernel
theorem dX8_takesAll_1 : decode cX8_takesAll 1 = .ok (.istore_n 1, 1) := by decide +kernel
theorem dX8_takesAll_2 : decode cX8_takesAll 2 = .ok (.iload_n 1, 1) := by decide +kernel
theorem dX8_takesAll_3 : decode cX8_takesAll 3 = .ok (.bipush 65, 2) := by decide +kernel
theorem dX8_takesAll_5 : decode cX8_takesAll 5 = .ok (.if_icmp .ge 21, 3) := by decide +kernel
theorem dX8_takesAll_8 : decode cX8_takesAll 8 = .ok (.aload_n 0, 1) := by decide +kernel
theorem dX8_takesAll_9 : decode cX8_takesAll 9 = .ok (.getfield 7, 3) := by decide +kernel
theorem dX8_takesAll_12 : decode cX8_takesAll 12 = .ok (.iload_n 1, 1) := by decide +kernel
theorem dX8_takesAll_13 : decode cX8_takesAll 13 = .ok (.aload_n 0, 1) := by decide +kernel
theorem dX8_takesAll_14 : decode cX8_takesAll 14 = .ok (.getfield 13, 3) := by decide +kernel
theorem dX8_takesAll_17 : decode cX8_takesAll 17 = .ok (.iload_n 1, 1) := by decide +kernel
theorem dX8_takesAll_18 : decode cX8_takesAll 18 = .ok (.iaload, 1) := by decide +kernel
theorem dX8_takesAll_19 : decode cX8_takesAll 19 = .ok (.iastore, 1) := by decide +kernel
theorem dX8_takesAll_20 : decode cX8_takesAll 20 = .ok (.iinc 1 1, 3) := by decide +kernel
theorem dX8_takesAll_23 : decode cX8_takesAll 23 = .ok (.goto (-21), 3) := by decide +kernel
theorem dX8_takesAll_26 : decode cX8_takesAll 26 = .ok (.aload_n 0, 1) := by decide +kernel
theorem dX8_takesAll_27 : decode cX8_takesAll 27 = .ok (.iconst 0, 1) := by decide +kernel
theorem dX8_takesAll_28 : decode cX8_takesAll 28 = .ok (.putfield 48, 3) := by decide +kernel
theorem dX8_takesAll_31 : decode cX8_takesAll 31 = .ok (.return_, 1) := by decide +kernel
theorem dX8_isAt_0 : decode cX8_isAt 0 = .ok (.aload_n 0, 1) := by decide +kernel
theorem dX8_isAt_1 : decode cX8_isAt 1 = .ok (.getfield 52, 3) := by decide +kernel
theorem dX8_isAt_4 : decode cX8_isAt 4 = .ok (.aload_n 0, 1) := by decide +kernel
theorem dX8_isAt_5 : decode cX8_isAt 5 = .ok (.getfield 55, 3) := by decide +kernel
theorem dX8_isAt_8 : decode cX8_isAt 8 = .ok (.if_icmp .ge 24, 3) := by decide +kernel
theorem dX8_isAt_11 : decode cX8_isAt 11 = .ok (.aload_n 0, 1) := by decide +kernel
theorem dX8_isAt_12 : decode cX8_isAt 12 = .ok (.getfield 19, 3) := by decide +kernel
theorem dX8_isAt_15 : decode cX8_isAt 15 = .ok (.aload_n 0, 1) := by decide +kernel
theorem dX8_isAt_16 : decode cX8_isAt 16 = .ok (.getfield 52, 3) := by decide +kernel
theorem dX8_isAt_19 : decode cX8_isAt 19 = .ok (.iaload, 1) := by decide +kernel
theorem dX8_isAt_20 : decode cX8_isAt 20 = .ok (.iload_n 1, 1) := by decide +kernel
theorem dX8_isAt_21 : decode cX8_isAt 21 = .ok (.iload_n 2, 1) := by decide +kernel
theorem dX8_isAt_22 : decode cX8_isAt 22 = .ok (.invokestatic 58, 3) := by decide +kernel
theorem dX8_isAt_25 : decode cX8_isAt 25 = .ok (.ifCond .eq 7, 3) := by decide +kernel
theorem dX8_isAt_28 : decode cX8_isAt 28 = .ok (.iconst 1, 1) := by decide +kernel
theorem dX8_isAt_29 : decode cX8_isAt 29 = .ok (.goto 4, 3) := by decide +kernel
theorem dX8_isAt_32 : decode cX8_isAt 32 = .ok (.iconst 0, 1) := by decide +kernel
theorem dX8_isAt_33 : decode cX8_isAt 33 = .ok (.ireturn, 1) := by decide +kernel
theorem dX8_isWord_0 : decode cX8_isWord 0 = .ok (.aload_n 0, 1) := by decide +kernel
theorem dX8_isWord_1 : decode cX8_isWord 1 = .ok (.getfield 52, 3) := by decide +kernel
theorem dX8_isWord_4 : decode cX8_isWord 4 = .ok (.iconst 4, 1) := by decide +kernel
theorem dX8_isWord_5 : decode cX8_isWord 5 = .ok (.iadd, 1) := by decide +kernel
theorem dX8_isWord_6 : decode cX8_isWord 6 = .ok (.aload_n 0, 1) := by decide +kernel
theorem dX8_isWord_7 : decode cX8_isWord 7 = .ok (.getfield 55, 3) := by decide +kernel
theorem dX8_isWord_10 : decode cX8_isWord 10 = .ok (.if_icmp .ge 82, 3) := by decide +kernel
theorem dX8_isWord_13 : decode cX8_isWord 13 = .ok (.aload_n 0, 1) := by decide +kernel
theorem dX8_isWord_14 : decode cX8_isWord 14 = .ok (.getfield 19, 3) := by decide +kernel
theorem dX8_isWord_17 : decode cX8_isWord 17 = .ok (.aload_n 0, 1) := by decide +kernel
theorem dX8_isWord_18 : decode cX8_isWord 18 = .ok (.getfield 52, 3) := by decide +kernel
theorem dX8_isWord_21 : decode cX8_isWord 21 = .ok (.iaload, 1) := by decide +kernel
theorem dX8_isWord_22 : decode cX8_isWord 22 = .ok (.iload_n 1, 1) := by decide +kernel
theorem dX8_isWord_23 : decode cX8_isWord 23 = .ok (.if_icmp .ne 69, 3) := by decide +kernel
theorem dX8_isWord_26 : decode cX8_isWord 26 = .ok (.aload_n 0, 1) := by decide +kernel
theorem dX8_isWord_27 : decode cX8_isWord 27 = .ok (.getfield 19, 3) := by decide +kernel
theorem dX8_isWord_30 : decode cX8_isWord 30 = .ok (.aload_n 0, 1) := by decide +kernel
theorem dX8_isWord_31 : decode cX8_isWord 31 = .ok (.getfield 52, 3) := by decide +kernel
theorem dX8_isWord_34 : decode cX8_isWord 34 = .ok (.iconst 1, 1) := by decide +kernel
theorem dX8_isWord_35 : decode cX8_isWord 35 = .ok (.iadd, 1) := by decide +kernel
theorem dX8_isWord_36 : decode cX8_isWord 36 = .ok (.iaload, 1) := by decide +kernel
theorem dX8_isWord_37 : decode cX8_isWord 37 = .ok (.iload_n 2, 1) := by decide +kernel
theorem dX8_isWord_38 : decode cX8_isWord 38 = .ok (.if_icmp .ne 54, 3) := by decide +kernel
theorem dX8_isWord_41 : decode cX8_isWord 41 = .ok (.aload_n 0, 1) := by decide +kernel
theorem dX8_isWord_42 : decode cX8_isWord 42 = .ok (.getfield 19, 3) := by decide +kernel
theorem dX8_isWord_45 : decode cX8_isWord 45 = .ok (.aload_n 0, 1) := by decide +kernel
theorem dX8_isWord_46 : decode cX8_isWord 46 = .ok (.getfield 52, 3) := by decide +kernel
theorem dX8_isWord_49 : decode cX8_isWord 49 = .ok (.iconst 2, 1) := by decide +kernel
theorem dX8_isWord_50 : decode cX8_isWord 50 = .ok (.iadd, 1) := by decide +kernel
theorem dX8_isWord_51 : decode cX8_isWord 51 = .ok (.iaload, 1) := by decide +kernel
theorem dX8_isWord_52 : decode cX8_isWord 52 = .ok (.iload_n 3, 1) := by decide +kernel
theorem dX8_isWord_53 : decode cX8_isWord 53 = .ok (.if_icmp .ne 39, 3) := by decide +kernel
theorem dX8_isWord_56 : decode cX8_isWord 56 = .ok (.aload_n 0, 1) := by decide +kernel
theorem dX8_isWord_57 : decode cX8_isWord 57 = .ok (.getfield 19, 3) := by decide +kernel
theorem dX8_isWord_60 : decode cX8_isWord 60 = .ok (.aload_n 0, 1) := by decide +kernel
theorem dX8_isWord_61 : decode cX8_isWord 61 = .ok (.getfield 52, 3) := by decide +kernel
theorem dX8_isWord_64 : decode cX8_isWord 64 = .ok (.iconst 3, 1) := by decide +kernel
theorem dX8_isWord_65 : decode cX8_isWord 65 = .ok (.iadd, 1) := by decide +kernel
theorem dX8_isWord_66 : decode cX8_isWord 66 = .ok (.iaload, 1) := by decide +kernel
theorem dX8_isWord_67 : decode cX8_isWord 67 = .ok (.iload 4, 2) := by decide +kernel
theorem dX8_isWord_69 : decode cX8_isWord 69 = .ok (.if_icmp .ne 23, 3) := by decide +kernel
theorem dX8_isWord_72 : decode cX8_isWord 72 = .ok (.aload_n 0, 1) := by decide +kernel
theorem dX8_isWord_73 : decode cX8_isWord 73 = .ok (.getfield 19, 3) := by decide +kernel
theorem dX8_isWord_76 : decode cX8_isWord 76 = .ok (.aload_n 0, 1) := by decide +kernel
theorem dX8_isWord_77 : decode cX8_isWord 77 = .ok (.getfield 52, 3) := by decide +kernel
theorem dX8_isWord_80 : decode cX8_isWord 80 = .ok (.iconst 4, 1) := by decide +kernel
theorem dX8_isWord_81 : decode cX8_isWord 81 = .ok (.iadd, 1) := by decide +kernel
theorem dX8_isWord_82 : decode cX8_isWord 82 = .ok (.iaload, 1) := by decide +kernel
theorem dX8_isWord_83 : decode cX8_isWord 83 = .ok (.bipush 32, 2) := by decide +kernel
theorem dX8_isWord_85 : decode cX8_isWord 85 = .ok (.if_icmp .ne 7, 3) := by decide +kernel
theorem dX8_isWord_88 : decode cX8_isWord 88 = .ok (.iconst 1, 1) := by decide +kernel
theorem dX8_isWord_89 : decode cX8_isWord 89 = .ok (.goto 4, 3) := by decide +kernel
theorem dX8_isWord_92 : decode cX8_isWord 92 = .ok (.iconst 0, 1) := by decide +kernel
theorem dX8_isWord_93 : decode cX8_isWord 93 = .ok (.ireturn, 1) := by decide +kernel
theorem dX8_takesNumber_0 : decode cX8_takesNumber 0 = .ok (.aload_n 0, 1) := by decide +kernel
theorem dX8_takesNumber_1 : decode cX8_takesNumber 1 = .ok (.getfield 52, 3) := by decide +kernel
theorem dX8_takesNumber_4 : decode cX8_takesNumber 4 = .ok (.istore_n 1, 1) := by decide +kernel
theorem dX8_takesNumber_5 : decode cX8_takesNumber 5 = .ok (.iconst 0, 1) := by decide +kernel
theorem dX8_takesNumber_6 : decode cX8_takesNumber 6 = .ok (.istore_n 2, 1) := by decide +kernel
theorem dX8_takesNumber_7 : decode cX8_takesNumber 7 = .ok (.aload_n 0, 1) := by decide +kernel
theorem dX8_takesNumber_8 : decode cX8_takesNumber 8 = .ok (.getfield 52, 3) := by decide +kernel
theorem dX8_takesNumber_11 : decode cX8_takesNumber 11 = .ok (.iload_n 1, 1) := by decide +kernel
theorem dX8_takesNumber_12 : decode cX8_takesNumber 12 = .ok (.iconst 2, 1) := by decide +kernel
theorem dX8_takesNumber_13 : decode cX8_takesNumber 13 = .ok (.iadd, 1) := by decide +kernel
theorem dX8_takesNumber_14 : decode cX8_takesNumber 14 = .ok (.if_icmp .ge 45, 3) := by decide +kernel
theorem dX8_takesNumber_17 : decode cX8_takesNumber 17 = .ok (.aload_n 0, 1) := by decide +kernel
theorem dX8_takesNumber_18 : decode cX8_takesNumber 18 = .ok (.bipush 48, 2) := by decide +kernel
theorem dX8_takesNumber_20 : decode cX8_takesNumber 20 = .ok (.bipush 57, 2) := by decide +kernel
theorem dX8_takesNumber_22 : decode cX8_takesNumber 22 = .ok (.invokevirtual 62, 3) := by decide +kernel
theorem dX8_takesNumber_25 : decode cX8_takesNumber 25 = .ok (.ifCond .eq 34, 3) := by decide +kernel
theorem dX8_takesNumber_28 : decode cX8_takesNumber 28 = .ok (.bipush 10, 2) := by decide +kernel
theorem dX8_takesNumber_30 : decode cX8_takesNumber 30 = .ok (.iload_n 2, 1) := by decide +kernel
theorem dX8_takesNumber_31 : decode cX8_takesNumber 31 = .ok (.imul, 1) := by decide +kernel
theorem dX8_takesNumber_32 : decode cX8_takesNumber 32 = .ok (.aload_n 0, 1) := by decide +kernel
theorem dX8_takesNumber_33 : decode cX8_takesNumber 33 = .ok (.getfield 19, 3) := by decide +kernel
theorem dX8_takesNumber_36 : decode cX8_takesNumber 36 = .ok (.aload_n 0, 1) := by decide +kernel
theorem dX8_takesNumber_37 : decode cX8_takesNumber 37 = .ok (.getfield 52, 3) := by decide +kernel
theorem dX8_takesNumber_40 : decode cX8_takesNumber 40 = .ok (.iaload, 1) := by decide +kernel
theorem dX8_takesNumber_41 : decode cX8_takesNumber 41 = .ok (.iadd, 1) := by decide +kernel
theorem dX8_takesNumber_42 : decode cX8_takesNumber 42 = .ok (.bipush 48, 2) := by decide +kernel
theorem dX8_takesNumber_44 : decode cX8_takesNumber 44 = .ok (.isub, 1) := by decide +kernel
theorem dX8_takesNumber_45 : decode cX8_takesNumber 45 = .ok (.istore_n 2, 1) := by decide +kernel
theorem dX8_takesNumber_46 : decode cX8_takesNumber 46 = .ok (.aload_n 0, 1) := by decide +kernel
theorem dX8_takesNumber_47 : decode cX8_takesNumber 47 = .ok (.dup, 1) := by decide +kernel
theorem dX8_takesNumber_48 : decode cX8_takesNumber 48 = .ok (.getfield 52, 3) := by decide +kernel
theorem dX8_takesNumber_51 : decode cX8_takesNumber 51 = .ok (.iconst 1, 1) := by decide +kernel
theorem dX8_takesNumber_52 : decode cX8_takesNumber 52 = .ok (.iadd, 1) := by decide +kernel
theorem dX8_takesNumber_53 : decode cX8_takesNumber 53 = .ok (.putfield 52, 3) := by decide +kernel
theorem dX8_takesNumber_56 : decode cX8_takesNumber 56 = .ok (.goto (-49), 3) := by decide +kernel
theorem dX8_takesNumber_59 : decode cX8_takesNumber 59 = .ok (.aload_n 0, 1) := by decide +kernel
theorem dX8_takesNumber_60 : decode cX8_takesNumber 60 = .ok (.getfield 22, 3) := by decide +kernel
theorem dX8_takesNumber_63 : decode cX8_takesNumber 63 = .ok (.aload_n 0, 1) := by decide +kernel
theorem dX8_takesNumber_64 : decode cX8_takesNumber 64 = .ok (.getfield 66, 3) := by decide +kernel
theorem dX8_takesNumber_67 : decode cX8_takesNumber 67 = .ok (.iload_n 2, 1) := by decide +kernel
theorem dX8_takesNumber_68 : decode cX8_takesNumber 68 = .ok (.iastore, 1) := by decide +kernel
theorem dX8_takesNumber_69 : decode cX8_takesNumber 69 = .ok (.aload_n 0, 1) := by decide +kernel
theorem dX8_takesNumber_70 : decode cX8_takesNumber 70 = .ok (.dup, 1) := by decide +kernel
theorem dX8_takesNumber_71 : decode cX8_takesNumber 71 = .ok (.getfield 66, 3) := by decide +kernel
theorem dX8_takesNumber_74 : decode cX8_takesNumber 74 = .ok (.iconst 1, 1) := by decide +kernel
theorem dX8_takesNumber_75 : decode cX8_takesNumber 75 = .ok (.iadd, 1) := by decide +kernel
theorem dX8_takesNumber_76 : decode cX8_takesNumber 76 = .ok (.putfield 66, 3) := by decide +kernel
theorem dX8_takesNumber_79 : decode cX8_takesNumber 79 = .ok (.aload_n 0, 1) := by decide +kernel
theorem dX8_takesNumber_80 : decode cX8_takesNumber 80 = .ok (.getfield 52, 3) := by decide +kernel
theorem dX8_takesNumber_83 : decode cX8_takesNumber 83 = .ok (.iload_n 1, 1) := by decide +kernel
theorem dX8_takesNumber_84 : decode cX8_takesNumber 84 = .ok (.if_icmp .le 7, 3) := by decide +kernel
theorem dX8_takesNumber_87 : decode cX8_takesNumber 87 = .ok (.iconst 1, 1) := by decide +kernel
theorem dX8_takesNumber_88 : decode cX8_takesNumber 88 = .ok (.goto 4, 3) := by decide +kernel
theorem dX8_takesNumber_91 : decode cX8_takesNumber 91 = .ok (.iconst 0, 1) := by decide +kernel
theorem dX8_takesNumber_92 : decode cX8_takesNumber 92 = .ok (.ireturn, 1) := by decide +kernel
theorem dX8_takesNumbers_0 : decode cX8_takesNumbers 0 = .ok (.aload_n 0, 1) := by decide +kernel
theorem dX8_takesNumbers_1 : decode cX8_takesNumbers 1 = .ok (.dup, 1) := by decide +kernel
theorem dX8_takesNumbers_2 : decode cX8_takesNumbers 2 = .ok (.getfield 52, 3) := by decide +kernel
theorem dX8_takesNumbers_5 : decode cX8_takesNumbers 5 = .ok (.iconst 5, 1) := by decide +kernel
theorem dX8_takesNumbers_6 : decode cX8_takesNumbers 6 = .ok (.iadd, 1) := by decide +kernel
theorem dX8_takesNumbers_7 : decode cX8_takesNumbers 7 = .ok (.putfield 52, 3) := by decide +kernel
theorem dX8_takesNumbers_10 : decode cX8_takesNumbers 10 = .ok (.aload_n 0, 1) := by decide +kernel
theorem dX8_takesNumbers_11 : decode cX8_takesNumbers 11 = .ok (.iconst 0, 1) := by decide +kernel
theorem dX8_takesNumbers_12 : decode cX8_takesNumbers 12 = .ok (.putfield 66, 3) := by decide +kernel
theorem dX8_takesNumbers_15 : decode cX8_takesNumbers 15 = .ok (.iconst 1, 1) := by decide +kernel
theorem dX8_takesNumbers_16 : decode cX8_takesNumbers 16 = .ok (.istore_n 3, 1) := by decide +kernel
theorem dX8_takesNumbers_17 : decode cX8_takesNumbers 17 = .ok (.iload_n 3, 1) := by decide +kernel
theorem dX8_takesNumbers_18 : decode cX8_takesNumbers 18 = .ok (.ifCond .eq 50, 3) := by decide +kernel
theorem dX8_takesNumbers_21 : decode cX8_takesNumbers 21 = .ok (.aload_n 0, 1) := by decide +kernel
theorem dX8_takesNumbers_22 : decode cX8_takesNumbers 22 = .ok (.getfield 66, 3) := by decide +kernel
theorem dX8_takesNumbers_25 : decode cX8_takesNumbers 25 = .ok (.iload_n 2, 1) := by decide +kernel
theorem dX8_takesNumbers_26 : decode cX8_takesNumbers 26 = .ok (.if_icmp .eq 10, 3) := by decide +kernel
theorem dX8_takesNumbers_29 : decode cX8_takesNumbers 29 = .ok (.aload_n 0, 1) := by decide +kernel
theorem dX8_takesNumbers_30 : decode cX8_takesNumbers 30 = .ok (.invokevirtual 69, 3) := by decide +kernel
theorem dX8_takesNumbers_33 : decode cX8_takesNumbers 33 = .ok (.ifCond .ne 5, 3) := by decide +kernel
theorem dX8_takesNumbers_36 : decode cX8_takesNumbers 36 = .ok (.iconst 0, 1) := by decide +kernel
theorem dX8_takesNumbers_37 : decode cX8_takesNumbers 37 = .ok (.ireturn, 1) := by decide +kernel
theorem dX8_takesNumbers_38 : decode cX8_takesNumbers 38 = .ok (.aload_n 0, 1) := by decide +kernel
theorem dX8_takesNumbers_39 : decode cX8_takesNumbers 39 = .ok (.bipush 44, 2) := by decide +kernel
theorem dX8_takesNumbers_41 : decode cX8_takesNumbers 41 = .ok (.bipush 44, 2) := by decide +kernel
theorem dX8_takesNumbers_43 : decode cX8_takesNumbers 43 = .ok (.invokevirtual 62, 3) := by decide +kernel
theorem dX8_takesNumbers_46 : decode cX8_takesNumbers 46 = .ok (.istore_n 3, 1) := by decide +kernel
theorem dX8_takesNumbers_47 : decode cX8_takesNumbers 47 = .ok (.aload_n 0, 1) := by decide +kernel
theorem dX8_takesNumbers_48 : decode cX8_takesNumbers 48 = .ok (.dup, 1) := by decide +kernel
theorem dX8_takesNumbers_49 : decode cX8_takesNumbers 49 = .ok (.getfield 52, 3) := by decide +kernel
theorem dX8_takesNumbers_52 : decode cX8_takesNumbers 52 = .ok (.iload_n 3, 1) := by decide +kernel
theorem dX8_takesNumbers_53 : decode cX8_takesNumbers 53 = .ok (.ifCond .eq 7, 3) := by decide +kernel
theorem dX8_takesNumbers_56 : decode cX8_takesNumbers 56 = .ok (.iconst 1, 1) := by decide +kernel
theorem dX8_takesNumbers_57 : decode cX8_takesNumbers 57 = .ok (.goto 4, 3) := by decide +kernel
theorem dX8_takesNumbers_60 : decode cX8_takesNumbers 60 = .ok (.iconst 0, 1) := by decide +kernel
theorem dX8_takesNumbers_61 : decode cX8_takesNumbers 61 = .ok (.iadd, 1) := by decide +kernel
theorem dX8_takesNumbers_62 : decode cX8_takesNumbers 62 = .ok (.putfield 52, 3) := by decide +kernel
theorem dX8_takesNumbers_65 : decode cX8_takesNumbers 65 = .ok (.goto (-48), 3) := by decide +kernel
theorem dX8_takesNumbers_68 : decode cX8_takesNumbers 68 = .ok (.aload_n 0, 1) := by decide +kernel
theorem dX8_takesNumbers_69 : decode cX8_takesNumbers 69 = .ok (.getfield 66, 3) := by decide +kernel
theorem dX8_takesNumbers_72 : decode cX8_takesNumbers 72 = .ok (.iload_n 1, 1) := by decide +kernel
theorem dX8_takesNumbers_73 : decode cX8_takesNumbers 73 = .ok (.if_icmp .lt 18, 3) := by decide +kernel
theorem dX8_takesNumbers_76 : decode cX8_takesNumbers 76 = .ok (.aload_n 0, 1) := by decide +kernel
theorem dX8_takesNumbers_77 : decode cX8_takesNumbers 77 = .ok (.bipush 59, 2) := by decide +kernel
theorem dX8_takesNumbers_79 : decode cX8_takesNumbers 79 = .ok (.bipush 59, 2) := by decide +kernel
theorem dX8_takesNumbers_81 : decode cX8_takesNumbers 81 = .ok (.invokevirtual 62, 3) := by decide +kernel
theorem dX8_takesNumbers_84 : decode cX8_takesNumbers 84 = .ok (.ifCond .eq 7, 3) := by decide +kernel
theorem dX8_takesNumbers_87 : decode cX8_takesNumbers 87 = .ok (.iconst 1, 1) := by decide +kernel
theorem dX8_takesNumbers_88 : decode cX8_takesNumbers 88 = .ok (.goto 4, 3) := by decide +kernel
theorem dX8_takesNumbers_91 : decode cX8_takesNumbers 91 = .ok (.iconst 0, 1) := by decide +kernel
theorem dX8_takesNumbers_92 : decode cX8_takesNumbers 92 = .ok (.istore 4, 2) := by decide +kernel
theorem dX8_takesNumbers_94 : decode cX8_takesNumbers 94 = .ok (.aload_n 0, 1) := by decide +kernel
theorem dX8_takesNumbers_95 : decode cX8_takesNumbers 95 = .ok (.dup, 1) := by decide +kernel
theorem dX8_takesNumbers_96 : decode cX8_takesNumbers 96 = .ok (.getfield 52, 3) := by decide +kernel
theorem dX8_takesNumbers_99 : decode cX8_takesNumbers 99 = .ok (.iconst 1, 1) := by decide +kernel
theorem dX8_takesNumbers_100 : decode cX8_takesNumbers 100 = .ok (.iadd, 1) := by decide +kernel
theorem dX8_takesNumbers_101 : decode cX8_takesNumbers 101 = .ok (.putfield 52, 3) := by decide +kernel
theorem dX8_takesNumbers_104 : decode cX8_takesNumbers 104 = .ok (.iload 4, 2) := by decide +kernel
theorem dX8_takesNumbers_106 : decode cX8_takesNumbers 106 = .ok (.ireturn, 1) := by decide +kernel
theorem dX8_takesYard_0 : decode cX8_takesYard 0 = .ok (.aload_n 0, 1) := by decide +kernel
theorem dX8_takesYard_1 : decode cX8_takesYard 1 = .ok (.getfield 13, 3) := by decide +kernel
theorem dX8_takesYard_4 : decode cX8_takesYard 4 = .ok (.iconst 0, 1) := by decide +kernel
theorem dX8_takesYard_5 : decode cX8_takesYard 5 = .ok (.iaload, 1) := by decide +kernel
theorem dX8_takesYard_6 : decode cX8_takesYard 6 = .ok (.ifCond .ne 44, 3) := by decide +kernel
theorem dX8_takesYard_9 : decode cX8_takesYard 9 = .ok (.aload_n 0, 1) := by decide +kernel
theorem dX8_takesYard_10 : decode cX8_takesYard 10 = .ok (.iconst 2, 1) := by decide +kernel
theorem dX8_takesYard_11 : decode cX8_takesYard 11 = .ok (.iconst 2, 1) := by decide +kernel
theorem dX8_takesYard_12 : decode cX8_takesYard 12 = .ok (.invokevirtual 73, 3) := by decide +kernel
theorem dX8_takesYard_15 : decode cX8_takesYard 15 = .ok (.ifCond .eq 35, 3) := by decide +kernel
theorem dX8_takesYard_18 : decode cX8_takesYard 18 = .ok (.aload_n 0, 1) := by decide +kernel
theorem dX8_takesYard_19 : decode cX8_takesYard 19 = .ok (.getfield 22, 3) := by decide +kernel
theorem dX8_takesYard_22 : decode cX8_takesYard 22 = .ok (.iconst 0, 1) := by decide +kernel
theorem dX8_takesYard_23 : decode cX8_takesYard 23 = .ok (.iaload, 1) := by decide +kernel
theorem dX8_takesYard_24 : decode cX8_takesYard 24 = .ok (.iconst 1, 1) := by decide +kernel
theorem dX8_takesYard_25 : decode cX8_takesYard 25 = .ok (.iconst 3, 1) := by decide +kernel
theorem dX8_takesYard_26 : decode cX8_takesYard 26 = .ok (.invokestatic 58, 3) := by decide +kernel
theorem dX8_takesYard_29 : decode cX8_takesYard 29 = .ok (.ifCond .eq 21, 3) := by decide +kernel
theorem dX8_takesYard_32 : decode cX8_takesYard 32 = .ok (.aload_n 0, 1) := by decide +kernel
theorem dX8_takesYard_33 : decode cX8_takesYard 33 = .ok (.getfield 22, 3) := by decide +kernel
theorem dX8_takesYard_36 : decode cX8_takesYard 36 = .ok (.iconst 1, 1) := by decide +kernel
theorem dX8_takesYard_37 : decode cX8_takesYard 37 = .ok (.iaload, 1) := by decide +kernel
theorem dX8_takesYard_38 : decode cX8_takesYard 38 = .ok (.iconst 1, 1) := by decide +kernel
theorem dX8_takesYard_39 : decode cX8_takesYard 39 = .ok (.iconst 4, 1) := by decide +kernel
theorem dX8_takesYard_40 : decode cX8_takesYard 40 = .ok (.invokestatic 58, 3) := by decide +kernel
theorem dX8_takesYard_43 : decode cX8_takesYard 43 = .ok (.ifCond .eq 7, 3) := by decide +kernel
theorem dX8_takesYard_46 : decode cX8_takesYard 46 = .ok (.iconst 1, 1) := by decide +kernel
theorem dX8_takesYard_47 : decode cX8_takesYard 47 = .ok (.goto 4, 3) := by decide +kernel
theorem dX8_takesYard_50 : decode cX8_takesYard 50 = .ok (.iconst 0, 1) := by decide +kernel
theorem dX8_takesYard_51 : decode cX8_takesYard 51 = .ok (.istore_n 1, 1) := by decide +kernel
theorem dX8_takesYard_52 : decode cX8_takesYard 52 = .ok (.iload_n 1, 1) := by decide +kernel
theorem dX8_takesYard_53 : decode cX8_takesYard 53 = .ok (.ifCond .eq 27, 3) := by decide +kernel
theorem dX8_takesYard_56 : decode cX8_takesYard 56 = .ok (.aload_n 0, 1) := by decide +kernel
theorem dX8_takesYard_57 : decode cX8_takesYard 57 = .ok (.getfield 13, 3) := by decide +kernel
theorem dX8_takesYard_60 : decode cX8_takesYard 60 = .ok (.iconst 0, 1) := by decide +kernel
theorem dX8_takesYard_61 : decode cX8_takesYard 61 = .ok (.aload_n 0, 1) := by decide +kernel
theorem dX8_takesYard_62 : decode cX8_takesYard 62 = .ok (.getfield 22, 3) := by decide +kernel
theorem dX8_takesYard_65 : decode cX8_takesYard 65 = .ok (.iconst 0, 1) := by decide +kernel
theorem dX8_takesYard_66 : decode cX8_takesYard 66 = .ok (.iaload, 1) := by decide +kernel
theorem dX8_takesYard_67 : decode cX8_takesYard 67 = .ok (.iastore, 1) := by decide +kernel
theorem dX8_takesYard_68 : decode cX8_takesYard 68 = .ok (.aload_n 0, 1) := by decide +kernel
theorem dX8_takesYard_69 : decode cX8_takesYard 69 = .ok (.getfield 13, 3) := by decide +kernel
theorem dX8_takesYard_72 : decode cX8_takesYard 72 = .ok (.iconst 1, 1) := by decide +kernel
theorem dX8_takesYard_73 : decode cX8_takesYard 73 = .ok (.aload_n 0, 1) := by decide +kernel
theorem dX8_takesYard_74 : decode cX8_takesYard 74 = .ok (.getfield 22, 3) := by decide +kernel
theorem dX8_takesYard_77 : decode cX8_takesYard 77 = .ok (.iconst 1, 1) := by decide +kernel
theorem dX8_takesYard_78 : decode cX8_takesYard 78 = .ok (.iaload, 1) := by decide +kernel
theorem dX8_takesYard_79 : decode cX8_takesYard 79 = .ok (.iastore, 1) := by decide +kernel
theorem dX8_takesYard_80 : decode cX8_takesYard 80 = .ok (.iload_n 1, 1) := by decide +kernel
theorem dX8_takesYard_81 : decode cX8_takesYard 81 = .ok (.ireturn, 1) := by decide +kernel
theorem dX8_takesPath_0 : decode cX8_takesPath 0 = .ok (.aload_n 0, 1) := by decide +kernel
theorem dX8_takesPath_1 : decode cX8_takesPath 1 = .ok (.iconst 2, 1) := by decide +kernel
theorem dX8_takesPath_2 : decode cX8_takesPath 2 = .ok (.bipush 6, 2) := by decide +kernel
theorem dX8_takesPath_4 : decode cX8_takesPath 4 = .ok (.invokevirtual 73, 3) := by decide +kernel
theorem dX8_takesPath_7 : decode cX8_takesPath 7 = .ok (.ifCond .eq 33, 3) := by decide +kernel
theorem dX8_takesPath_10 : decode cX8_takesPath 10 = .ok (.aload_n 0, 1) := by decide +kernel
theorem dX8_takesPath_11 : decode cX8_takesPath 11 = .ok (.getfield 22, 3) := by decide +kernel
theorem dX8_takesPath_14 : decode cX8_takesPath 14 = .ok (.iconst 0, 1) := by decide +kernel
theorem dX8_takesPath_15 : decode cX8_takesPath 15 = .ok (.iaload, 1) := by decide +kernel
theorem dX8_takesPath_16 : decode cX8_takesPath 16 = .ok (.aload_n 0, 1) := by decide +kernel
theorem dX8_takesPath_17 : decode cX8_takesPath 17 = .ok (.getfield 13, 3) := by decide +kernel
theorem dX8_takesPath_20 : decode cX8_takesPath 20 = .ok (.iconst 0, 1) := by decide +kernel
theorem dX8_takesPath_21 : decode cX8_takesPath 21 = .ok (.iaload, 1) := by decide +kernel
theorem dX8_takesPath_22 : decode cX8_takesPath 22 = .ok (.if_icmp .ge 18, 3) := by decide +kernel
theorem dX8_takesPath_25 : decode cX8_takesPath 25 = .ok (.aload_n 0, 1) := by decide +kernel
theorem dX8_takesPath_26 : decode cX8_takesPath 26 = .ok (.getfield 22, 3) := by decide +kernel
theorem dX8_takesPath_29 : decode cX8_takesPath 29 = .ok (.iconst 1, 1) := by decide +kernel
theorem dX8_takesPath_30 : decode cX8_takesPath 30 = .ok (.iaload, 1) := by decide +kernel
theorem dX8_takesPath_31 : decode cX8_takesPath 31 = .ok (.aload_n 0, 1) := by decide +kernel
theorem dX8_takesPath_32 : decode cX8_takesPath 32 = .ok (.getfield 13, 3) := by decide +kernel
theorem dX8_takesPath_35 : decode cX8_takesPath 35 = .ok (.iconst 1, 1) := by decide +kernel
theorem dX8_takesPath_36 : decode cX8_takesPath 36 = .ok (.iaload, 1) := by decide +kernel
theorem dX8_takesPath_37 : decode cX8_takesPath 37 = .ok (.if_icmp .lt 5, 3) := by decide +kernel
theorem dX8_takesPath_40 : decode cX8_takesPath 40 = .ok (.iconst 0, 1) := by decide +kernel
theorem dX8_takesPath_41 : decode cX8_takesPath 41 = .ok (.ireturn, 1) := by decide +kernel
theorem dX8_takesPath_42 : decode cX8_takesPath 42 = .ok (.iconst 4, 1) := by decide +kernel
theorem dX8_takesPath_43 : decode cX8_takesPath 43 = .ok (.iconst 4, 1) := by decide +kernel
theorem dX8_takesPath_44 : decode cX8_takesPath 44 = .ok (.aload_n 0, 1) := by decide +kernel
theorem dX8_takesPath_45 : decode cX8_takesPath 45 = .ok (.getfield 22, 3) := by decide +kernel
theorem dX8_takesPath_48 : decode cX8_takesPath 48 = .ok (.iconst 0, 1) := by decide +kernel
theorem dX8_takesPath_49 : decode cX8_takesPath 49 = .ok (.iaload, 1) := by decide +kernel
theorem dX8_takesPath_50 : decode cX8_takesPath 50 = .ok (.imul, 1) := by decide +kernel
theorem dX8_takesPath_51 : decode cX8_takesPath 51 = .ok (.iadd, 1) := by decide +kernel
theorem dX8_takesPath_52 : decode cX8_takesPath 52 = .ok (.aload_n 0, 1) := by decide +kernel
theorem dX8_takesPath_53 : decode cX8_takesPath 53 = .ok (.getfield 22, 3) := by decide +kernel
theorem dX8_takesPath_56 : decode cX8_takesPath 56 = .ok (.iconst 1, 1) := by decide +kernel
theorem dX8_takesPath_57 : decode cX8_takesPath 57 = .ok (.iaload, 1) := by decide +kernel
theorem dX8_takesPath_58 : decode cX8_takesPath 58 = .ok (.iadd, 1) := by decide +kernel
theorem dX8_takesPath_59 : decode cX8_takesPath 59 = .ok (.istore_n 1, 1) := by decide +kernel
theorem dX8_takesPath_60 : decode cX8_takesPath 60 = .ok (.aload_n 0, 1) := by decide +kernel
theorem dX8_takesPath_61 : decode cX8_takesPath 61 = .ok (.getfield 13, 3) := by decide +kernel
theorem dX8_takesPath_64 : decode cX8_takesPath 64 = .ok (.iload_n 1, 1) := by decide +kernel
theorem dX8_takesPath_65 : decode cX8_takesPath 65 = .ok (.iaload, 1) := by decide +kernel
theorem dX8_takesPath_66 : decode cX8_takesPath 66 = .ok (.bipush (-4), 2) := by decide +kernel
theorem dX8_takesPath_68 : decode cX8_takesPath 68 = .ok (.if_icmp .ne 7, 3) := by decide +kernel
theorem dX8_takesPath_71 : decode cX8_takesPath 71 = .ok (.iconst 1, 1) := by decide +kernel
theorem dX8_takesPath_72 : decode cX8_takesPath 72 = .ok (.goto 4, 3) := by decide +kernel
theorem dX8_takesPath_75 : decode cX8_takesPath 75 = .ok (.iconst 0, 1) := by decide +kernel
theorem dX8_takesPath_76 : decode cX8_takesPath 76 = .ok (.istore_n 2, 1) := by decide +kernel
theorem dX8_takesPath_77 : decode cX8_takesPath 77 = .ok (.iconst 0, 1) := by decide +kernel
theorem dX8_takesPath_78 : decode cX8_takesPath 78 = .ok (.istore_n 3, 1) := by decide +kernel
theorem dX8_takesPath_79 : decode cX8_takesPath 79 = .ok (.iconst 2, 1) := by decide +kernel
theorem dX8_takesPath_80 : decode cX8_takesPath 80 = .ok (.istore 4, 2) := by decide +kernel
theorem dX8_takesPath_82 : decode cX8_takesPath 82 = .ok (.iload 4, 2) := by decide +kernel
theorem dX8_takesPath_84 : decode cX8_takesPath 84 = .ok (.aload_n 0, 1) := by decide +kernel
theorem dX8_takesPath_85 : decode cX8_takesPath 85 = .ok (.getfield 66, 3) := by decide +kernel
theorem dX8_takesPath_88 : decode cX8_takesPath 88 = .ok (.if_icmp .ge 51, 3) := by decide +kernel
theorem dX8_takesPath_91 : decode cX8_takesPath 91 = .ok (.iload_n 2, 1) := by decide +kernel
theorem dX8_takesPath_92 : decode cX8_takesPath 92 = .ok (.ifCond .eq 19, 3) := by decide +kernel
theorem dX8_takesPath_95 : decode cX8_takesPath 95 = .ok (.aload_n 0, 1) := by decide +kernel
theorem dX8_takesPath_96 : decode cX8_takesPath 96 = .ok (.getfield 22, 3) := by decide +kernel
theorem dX8_takesPath_99 : decode cX8_takesPath 99 = .ok (.iload 4, 2) := by decide +kernel
theorem dX8_takesPath_101 : decode cX8_takesPath 101 = .ok (.iaload, 1) := by decide +kernel
theorem dX8_takesPath_102 : decode cX8_takesPath 102 = .ok (.bipush 12, 2) := by decide +kernel
theorem dX8_takesPath_104 : decode cX8_takesPath 104 = .ok (.if_icmp .ge 7, 3) := by decide +kernel
theorem dX8_takesPath_107 : decode cX8_takesPath 107 = .ok (.iconst 1, 1) := by decide +kernel
theorem dX8_takesPath_108 : decode cX8_takesPath 108 = .ok (.goto 4, 3) := by decide +kernel
theorem dX8_takesPath_111 : decode cX8_takesPath 111 = .ok (.iconst 0, 1) := by decide +kernel
theorem dX8_takesPath_112 : decode cX8_takesPath 112 = .ok (.istore_n 2, 1) := by decide +kernel
theorem dX8_takesPath_113 : decode cX8_takesPath 113 = .ok (.iload_n 3, 1) := by decide +kernel
theorem dX8_takesPath_114 : decode cX8_takesPath 114 = .ok (.iload_n 2, 1) := by decide +kernel
theorem dX8_takesPath_115 : decode cX8_takesPath 115 = .ok (.ifCond .eq 15, 3) := by decide +kernel
theorem dX8_takesPath_118 : decode cX8_takesPath 118 = .ok (.iconst 1, 1) := by decide +kernel
theorem dX8_takesPath_119 : decode cX8_takesPath 119 = .ok (.aload_n 0, 1) := by decide +kernel
theorem dX8_takesPath_120 : decode cX8_takesPath 120 = .ok (.getfield 22, 3) := by decide +kernel
theorem dX8_takesPath_123 : decode cX8_takesPath 123 = .ok (.iload 4, 2) := by decide +kernel
theorem dX8_takesPath_125 : decode cX8_takesPath 125 = .ok (.iaload, 1) := by decide +kernel
theorem dX8_takesPath_126 : decode cX8_takesPath 126 = .ok (.ishl, 1) := by decide +kernel
theorem dX8_takesPath_127 : decode cX8_takesPath 127 = .ok (.goto 4, 3) := by decide +kernel
theorem dX8_takesPath_130 : decode cX8_takesPath 130 = .ok (.iconst 0, 1) := by decide +kernel
theorem dX8_takesPath_131 : decode cX8_takesPath 131 = .ok (.ior, 1) := by decide +kernel
theorem dX8_takesPath_132 : decode cX8_takesPath 132 = .ok (.istore_n 3, 1) := by decide +kernel
theorem dX8_takesPath_133 : decode cX8_takesPath 133 = .ok (.iinc 4 1, 3) := by decide +kernel
theorem dX8_takesPath_136 : decode cX8_takesPath 136 = .ok (.goto (-54), 3) := by decide +kernel
theorem dX8_takesPath_139 : decode cX8_takesPath 139 = .ok (.aload_n 0, 1) := by decide +kernel
theorem dX8_takesPath_140 : decode cX8_takesPath 140 = .ok (.getfield 13, 3) := by decide +kernel
theorem dX8_takesPath_143 : decode cX8_takesPath 143 = .ok (.iload_n 1, 1) := by decide +kernel
theorem dX8_takesPath_144 : decode cX8_takesPath 144 = .ok (.iload_n 3, 1) := by decide +kernel
theorem dX8_takesPath_145 : decode cX8_takesPath 145 = .ok (.iastore, 1) := by decide +kernel
theorem dX8_takesPath_146 : decode cX8_takesPath 146 = .ok (.iload_n 2, 1) := by decide +kernel
theorem dX8_takesPath_147 : decode cX8_takesPath 147 = .ok (.ireturn, 1) := by decide +kernel
theorem dX8_takesTrain_0 : decode cX8_takesTrain 0 = .ok (.aload_n 0, 1) := by decide +kernel
theorem dX8_takesTrain_1 : decode cX8_takesTrain 1 = .ok (.iconst 5, 1) := by decide +kernel
theorem dX8_takesTrain_2 : decode cX8_takesTrain 2 = .ok (.iconst 5, 1) := by decide +kernel
theorem dX8_takesTrain_3 : decode cX8_takesTrain 3 = .ok (.invokevirtual 73, 3) := by decide +kernel
theorem dX8_takesTrain_6 : decode cX8_takesTrain 6 = .ok (.ifCond .eq 83, 3) := by decide +kernel
theorem dX8_takesTrain_9 : decode cX8_takesTrain 9 = .ok (.aload_n 0, 1) := by decide +kernel
theorem dX8_takesTrain_10 : decode cX8_takesTrain 10 = .ok (.getfield 13, 3) := by decide +kernel
theorem dX8_takesTrain_13 : decode cX8_takesTrain 13 = .ok (.iconst 2, 1) := by decide +kernel
theorem dX8_takesTrain_14 : decode cX8_takesTrain 14 = .ok (.iaload, 1) := by decide +kernel
theorem dX8_takesTrain_15 : decode cX8_takesTrain 15 = .ok (.bipush 7, 2) := by decide +kernel
theorem dX8_takesTrain_17 : decode cX8_takesTrain 17 = .ok (.if_icmp .ge 72, 3) := by decide +kernel
theorem dX8_takesTrain_20 : decode cX8_takesTrain 20 = .ok (.aload_n 0, 1) := by decide +kernel
theorem dX8_takesTrain_21 : decode cX8_takesTrain 21 = .ok (.getfield 22, 3) := by decide +kernel
theorem dX8_takesTrain_24 : decode cX8_takesTrain 24 = .ok (.iconst 0, 1) := by decide +kernel
theorem dX8_takesTrain_25 : decode cX8_takesTrain 25 = .ok (.iaload, 1) := by decide +kernel
theorem dX8_takesTrain_26 : decode cX8_takesTrain 26 = .ok (.aload_n 0, 1) := by decide +kernel
theorem dX8_takesTrain_27 : decode cX8_takesTrain 27 = .ok (.getfield 13, 3) := by decide +kernel
theorem dX8_takesTrain_30 : decode cX8_takesTrain 30 = .ok (.iconst 0, 1) := by decide +kernel
theorem dX8_takesTrain_31 : decode cX8_takesTrain 31 = .ok (.iaload, 1) := by decide +kernel
theorem dX8_takesTrain_32 : decode cX8_takesTrain 32 = .ok (.if_icmp .ge 57, 3) := by decide +kernel
theorem dX8_takesTrain_35 : decode cX8_takesTrain 35 = .ok (.aload_n 0, 1) := by decide +kernel
theorem dX8_takesTrain_36 : decode cX8_takesTrain 36 = .ok (.getfield 22, 3) := by decide +kernel
theorem dX8_takesTrain_39 : decode cX8_takesTrain 39 = .ok (.iconst 1, 1) := by decide +kernel
theorem dX8_takesTrain_40 : decode cX8_takesTrain 40 = .ok (.iaload, 1) := by decide +kernel
theorem dX8_takesTrain_41 : decode cX8_takesTrain 41 = .ok (.aload_n 0, 1) := by decide +kernel
theorem dX8_takesTrain_42 : decode cX8_takesTrain 42 = .ok (.getfield 13, 3) := by decide +kernel
theorem dX8_takesTrain_45 : decode cX8_takesTrain 45 = .ok (.iconst 0, 1) := by decide +kernel
theorem dX8_takesTrain_46 : decode cX8_takesTrain 46 = .ok (.iaload, 1) := by decide +kernel
theorem dX8_takesTrain_47 : decode cX8_takesTrain 47 = .ok (.if_icmp .ge 42, 3) := by decide +kernel
theorem dX8_takesTrain_50 : decode cX8_takesTrain 50 = .ok (.aload_n 0, 1) := by decide +kernel
theorem dX8_takesTrain_51 : decode cX8_takesTrain 51 = .ok (.getfield 22, 3) := by decide +kernel
theorem dX8_takesTrain_54 : decode cX8_takesTrain 54 = .ok (.iconst 2, 1) := by decide +kernel
theorem dX8_takesTrain_55 : decode cX8_takesTrain 55 = .ok (.iaload, 1) := by decide +kernel
theorem dX8_takesTrain_56 : decode cX8_takesTrain 56 = .ok (.iconst 1, 1) := by decide +kernel
theorem dX8_takesTrain_57 : decode cX8_takesTrain 57 = .ok (.bipush 98, 2) := by decide +kernel
theorem dX8_takesTrain_59 : decode cX8_takesTrain 59 = .ok (.invokestatic 58, 3) := by decide +kernel
theorem dX8_takesTrain_62 : decode cX8_takesTrain 62 = .ok (.ifCond .eq 27, 3) := by decide +kernel
theorem dX8_takesTrain_65 : decode cX8_takesTrain 65 = .ok (.aload_n 0, 1) := by decide +kernel
theorem dX8_takesTrain_66 : decode cX8_takesTrain 66 = .ok (.getfield 22, 3) := by decide +kernel
theorem dX8_takesTrain_69 : decode cX8_takesTrain 69 = .ok (.iconst 3, 1) := by decide +kernel
theorem dX8_takesTrain_70 : decode cX8_takesTrain 70 = .ok (.iaload, 1) := by decide +kernel
theorem dX8_takesTrain_71 : decode cX8_takesTrain 71 = .ok (.aload_n 0, 1) := by decide +kernel
theorem dX8_takesTrain_72 : decode cX8_takesTrain 72 = .ok (.getfield 22, 3) := by decide +kernel
theorem dX8_takesTrain_75 : decode cX8_takesTrain 75 = .ok (.iconst 2, 1) := by decide +kernel
theorem dX8_takesTrain_76 : decode cX8_takesTrain 76 = .ok (.iaload, 1) := by decide +kernel
theorem dX8_takesTrain_77 : decode cX8_takesTrain 77 = .ok (.bipush 98, 2) := by decide +kernel
theorem dX8_takesTrain_79 : decode cX8_takesTrain 79 = .ok (.invokestatic 58, 3) := by decide +kernel
theorem dX8_takesTrain_82 : decode cX8_takesTrain 82 = .ok (.ifCond .eq 7, 3) := by decide +kernel
theorem dX8_takesTrain_85 : decode cX8_takesTrain 85 = .ok (.iconst 1, 1) := by decide +kernel
theorem dX8_takesTrain_86 : decode cX8_takesTrain 86 = .ok (.goto 4, 3) := by decide +kernel
theorem dX8_takesTrain_89 : decode cX8_takesTrain 89 = .ok (.iconst 0, 1) := by decide +kernel
theorem dX8_takesTrain_90 : decode cX8_takesTrain 90 = .ok (.istore_n 1, 1) := by decide +kernel
theorem dX8_takesTrain_91 : decode cX8_takesTrain 91 = .ok (.iload_n 1, 1) := by decide +kernel
theorem dX8_takesTrain_92 : decode cX8_takesTrain 92 = .ok (.ifCond .eq 29, 3) := by decide +kernel
theorem dX8_takesTrain_95 : decode cX8_takesTrain 95 = .ok (.aload_n 0, 1) := by decide +kernel
theorem dX8_takesTrain_96 : decode cX8_takesTrain 96 = .ok (.getfield 22, 3) := by decide +kernel
theorem dX8_takesTrain_99 : decode cX8_takesTrain 99 = .ok (.iconst 4, 1) := by decide +kernel
theorem dX8_takesTrain_100 : decode cX8_takesTrain 100 = .ok (.iaload, 1) := by decide +kernel
theorem dX8_takesTrain_101 : decode cX8_takesTrain 101 = .ok (.aload_n 0, 1) := by decide +kernel
theorem dX8_takesTrain_102 : decode cX8_takesTrain 102 = .ok (.getfield 13, 3) := by decide +kernel
theorem dX8_takesTrain_105 : decode cX8_takesTrain 105 = .ok (.iconst 1, 1) := by decide +kernel
theorem dX8_takesTrain_106 : decode cX8_takesTrain 106 = .ok (.iaload, 1) := by decide +kernel
theorem dX8_takesTrain_107 : decode cX8_takesTrain 107 = .ok (.if_icmp .lt 16, 3) := by decide +kernel
theorem dX8_takesTrain_110 : decode cX8_takesTrain 110 = .ok (.aload_n 0, 1) := by decide +kernel
theorem dX8_takesTrain_111 : decode cX8_takesTrain 111 = .ok (.getfield 22, 3) := by decide +kernel
theorem dX8_takesTrain_114 : decode cX8_takesTrain 114 = .ok (.iconst 4, 1) := by decide +kernel
theorem dX8_takesTrain_115 : decode cX8_takesTrain 115 = .ok (.iaload, 1) := by decide +kernel
theorem dX8_takesTrain_116 : decode cX8_takesTrain 116 = .ok (.bipush 9, 2) := by decide +kernel
theorem dX8_takesTrain_118 : decode cX8_takesTrain 118 = .ok (.if_icmp .eq 5, 3) := by decide +kernel
theorem dX8_takesTrain_121 : decode cX8_takesTrain 121 = .ok (.iconst 0, 1) := by decide +kernel
theorem dX8_takesTrain_122 : decode cX8_takesTrain 122 = .ok (.ireturn, 1) := by decide +kernel
theorem dX8_takesTrain_123 : decode cX8_takesTrain 123 = .ok (.aload_n 0, 1) := by decide +kernel
theorem dX8_takesTrain_124 : decode cX8_takesTrain 124 = .ok (.aload_n 0, 1) := by decide +kernel
theorem dX8_takesTrain_125 : decode cX8_takesTrain 125 = .ok (.getfield 22, 3) := by decide +kernel
theorem dX8_takesTrain_128 : decode cX8_takesTrain 128 = .ok (.iconst 0, 1) := by decide +kernel
theorem dX8_takesTrain_129 : decode cX8_takesTrain 129 = .ok (.iaload, 1) := by decide +kernel
theorem dX8_takesTrain_130 : decode cX8_takesTrain 130 = .ok (.aload_n 0, 1) := by decide +kernel
theorem dX8_takesTrain_131 : decode cX8_takesTrain 131 = .ok (.getfield 22, 3) := by decide +kernel
theorem dX8_takesTrain_134 : decode cX8_takesTrain 134 = .ok (.iconst 1, 1) := by decide +kernel
theorem dX8_takesTrain_135 : decode cX8_takesTrain 135 = .ok (.iaload, 1) := by decide +kernel
theorem dX8_takesTrain_136 : decode cX8_takesTrain 136 = .ok (.aload_n 0, 1) := by decide +kernel
theorem dX8_takesTrain_137 : decode cX8_takesTrain 137 = .ok (.getfield 22, 3) := by decide +kernel
theorem dX8_takesTrain_140 : decode cX8_takesTrain 140 = .ok (.iconst 2, 1) := by decide +kernel
theorem dX8_takesTrain_141 : decode cX8_takesTrain 141 = .ok (.iaload, 1) := by decide +kernel
theorem dX8_takesTrain_142 : decode cX8_takesTrain 142 = .ok (.aload_n 0, 1) := by decide +kernel
theorem dX8_takesTrain_143 : decode cX8_takesTrain 143 = .ok (.getfield 22, 3) := by decide +kernel
theorem dX8_takesTrain_146 : decode cX8_takesTrain 146 = .ok (.iconst 3, 1) := by decide +kernel
theorem dX8_takesTrain_147 : decode cX8_takesTrain 147 = .ok (.iaload, 1) := by decide +kernel
theorem dX8_takesTrain_148 : decode cX8_takesTrain 148 = .ok (.aload_n 0, 1) := by decide +kernel
theorem dX8_takesTrain_149 : decode cX8_takesTrain 149 = .ok (.getfield 22, 3) := by decide +kernel
theorem dX8_takesTrain_152 : decode cX8_takesTrain 152 = .ok (.iconst 4, 1) := by decide +kernel
theorem dX8_takesTrain_153 : decode cX8_takesTrain 153 = .ok (.iaload, 1) := by decide +kernel
theorem dX8_takesTrain_154 : decode cX8_takesTrain 154 = .ok (.bipush 9, 2) := by decide +kernel
theorem dX8_takesTrain_156 : decode cX8_takesTrain 156 = .ok (.if_icmp .ne 8, 3) := by decide +kernel
theorem dX8_takesTrain_159 : decode cX8_takesTrain 159 = .ok (.bipush (-4), 2) := by decide +kernel
theorem dX8_takesTrain_161 : decode cX8_takesTrain 161 = .ok (.goto 9, 3) := by decide +kernel
theorem dX8_takesTrain_164 : decode cX8_takesTrain 164 = .ok (.aload_n 0, 1) := by decide +kernel
theorem dX8_takesTrain_165 : decode cX8_takesTrain 165 = .ok (.getfield 22, 3) := by decide +kernel
theorem dX8_takesTrain_168 : decode cX8_takesTrain 168 = .ok (.iconst 4, 1) := by decide +kernel
theorem dX8_takesTrain_169 : decode cX8_takesTrain 169 = .ok (.iaload, 1) := by decide +kernel
theorem dX8_takesTrain_170 : decode cX8_takesTrain 170 = .ok (.invokevirtual 41, 3) := by decide +kernel
theorem dX8_takesTrain_173 : decode cX8_takesTrain 173 = .ok (.iconst 1, 1) := by decide +kernel
theorem dX8_takesTrain_174 : decode cX8_takesTrain 174 = .ok (.ireturn, 1) := by decide +kernel
theorem dX8_takesPair_0 : decode cX8_takesPair 0 = .ok (.aload_n 0, 1) := by decide +kernel
theorem dX8_takesPair_1 : decode cX8_takesPair 1 = .ok (.iconst 2, 1) := by decide +kernel
theorem dX8_takesPair_2 : decode cX8_takesPair 2 = .ok (.iconst 2, 1) := by decide +kernel
theorem dX8_takesPair_3 : decode cX8_takesPair 3 = .ok (.invokevirtual 73, 3) := by decide +kernel
theorem dX8_takesPair_6 : decode cX8_takesPair 6 = .ok (.ifCond .eq 48, 3) := by decide +kernel
theorem dX8_takesPair_9 : decode cX8_takesPair 9 = .ok (.aload_n 0, 1) := by decide +kernel
theorem dX8_takesPair_10 : decode cX8_takesPair 10 = .ok (.getfield 22, 3) := by decide +kernel
theorem dX8_takesPair_13 : decode cX8_takesPair 13 = .ok (.iconst 0, 1) := by decide +kernel
theorem dX8_takesPair_14 : decode cX8_takesPair 14 = .ok (.iaload, 1) := by decide +kernel
theorem dX8_takesPair_15 : decode cX8_takesPair 15 = .ok (.aload_n 0, 1) := by decide +kernel
theorem dX8_takesPair_16 : decode cX8_takesPair 16 = .ok (.getfield 22, 3) := by decide +kernel
theorem dX8_takesPair_19 : decode cX8_takesPair 19 = .ok (.iconst 1, 1) := by decide +kernel
theorem dX8_takesPair_20 : decode cX8_takesPair 20 = .ok (.iaload, 1) := by decide +kernel
theorem dX8_takesPair_21 : decode cX8_takesPair 21 = .ok (.if_icmp .eq 33, 3) := by decide +kernel
theorem dX8_takesPair_24 : decode cX8_takesPair 24 = .ok (.aload_n 0, 1) := by decide +kernel
theorem dX8_takesPair_25 : decode cX8_takesPair 25 = .ok (.getfield 22, 3) := by decide +kernel
theorem dX8_takesPair_28 : decode cX8_takesPair 28 = .ok (.iconst 0, 1) := by decide +kernel
theorem dX8_takesPair_29 : decode cX8_takesPair 29 = .ok (.iaload, 1) := by decide +kernel
theorem dX8_takesPair_30 : decode cX8_takesPair 30 = .ok (.aload_n 0, 1) := by decide +kernel
theorem dX8_takesPair_31 : decode cX8_takesPair 31 = .ok (.getfield 13, 3) := by decide +kernel
theorem dX8_takesPair_34 : decode cX8_takesPair 34 = .ok (.iconst 2, 1) := by decide +kernel
theorem dX8_takesPair_35 : decode cX8_takesPair 35 = .ok (.iaload, 1) := by decide +kernel
theorem dX8_takesPair_36 : decode cX8_takesPair 36 = .ok (.if_icmp .ge 18, 3) := by decide +kernel
theorem dX8_takesPair_39 : decode cX8_takesPair 39 = .ok (.aload_n 0, 1) := by decide +kernel
theorem dX8_takesPair_40 : decode cX8_takesPair 40 = .ok (.getfield 22, 3) := by decide +kernel
theorem dX8_takesPair_43 : decode cX8_takesPair 43 = .ok (.iconst 1, 1) := by decide +kernel
theorem dX8_takesPair_44 : decode cX8_takesPair 44 = .ok (.iaload, 1) := by decide +kernel
theorem dX8_takesPair_45 : decode cX8_takesPair 45 = .ok (.aload_n 0, 1) := by decide +kernel
theorem dX8_takesPair_46 : decode cX8_takesPair 46 = .ok (.getfield 13, 3) := by decide +kernel
theorem dX8_takesPair_49 : decode cX8_takesPair 49 = .ok (.iconst 2, 1) := by decide +kernel
theorem dX8_takesPair_50 : decode cX8_takesPair 50 = .ok (.iaload, 1) := by decide +kernel
theorem dX8_takesPair_51 : decode cX8_takesPair 51 = .ok (.if_icmp .lt 5, 3) := by decide +kernel
theorem dX8_takesPair_54 : decode cX8_takesPair 54 = .ok (.iconst 0, 1) := by decide +kernel
theorem dX8_takesPair_55 : decode cX8_takesPair 55 = .ok (.ireturn, 1) := by decide +kernel
theorem dX8_takesPair_56 : decode cX8_takesPair 56 = .ok (.bipush 16, 2) := by decide +kernel
theorem dX8_takesPair_58 : decode cX8_takesPair 58 = .ok (.bipush 7, 2) := by decide +kernel
theorem dX8_takesPair_60 : decode cX8_takesPair 60 = .ok (.aload_n 0, 1) := by decide +kernel
theorem dX8_takesPair_61 : decode cX8_takesPair 61 = .ok (.getfield 22, 3) := by decide +kernel
theorem dX8_takesPair_64 : decode cX8_takesPair 64 = .ok (.iconst 0, 1) := by decide +kernel
theorem dX8_takesPair_65 : decode cX8_takesPair 65 = .ok (.iaload, 1) := by decide +kernel
theorem dX8_takesPair_66 : decode cX8_takesPair 66 = .ok (.imul, 1) := by decide +kernel
theorem dX8_takesPair_67 : decode cX8_takesPair 67 = .ok (.iadd, 1) := by decide +kernel
theorem dX8_takesPair_68 : decode cX8_takesPair 68 = .ok (.iconst 5, 1) := by decide +kernel
theorem dX8_takesPair_69 : decode cX8_takesPair 69 = .ok (.iadd, 1) := by decide +kernel
theorem dX8_takesPair_70 : decode cX8_takesPair 70 = .ok (.istore_n 1, 1) := by decide +kernel
theorem dX8_takesPair_71 : decode cX8_takesPair 71 = .ok (.bipush 16, 2) := by decide +kernel
theorem dX8_takesPair_73 : decode cX8_takesPair 73 = .ok (.bipush 7, 2) := by decide +kernel
theorem dX8_takesPair_75 : decode cX8_takesPair 75 = .ok (.aload_n 0, 1) := by decide +kernel
theorem dX8_takesPair_76 : decode cX8_takesPair 76 = .ok (.getfield 22, 3) := by decide +kernel
theorem dX8_takesPair_79 : decode cX8_takesPair 79 = .ok (.iconst 1, 1) := by decide +kernel
theorem dX8_takesPair_80 : decode cX8_takesPair 80 = .ok (.iaload, 1) := by decide +kernel
theorem dX8_takesPair_81 : decode cX8_takesPair 81 = .ok (.imul, 1) := by decide +kernel
theorem dX8_takesPair_82 : decode cX8_takesPair 82 = .ok (.iadd, 1) := by decide +kernel
theorem dX8_takesPair_83 : decode cX8_takesPair 83 = .ok (.iconst 5, 1) := by decide +kernel
theorem dX8_takesPair_84 : decode cX8_takesPair 84 = .ok (.iadd, 1) := by decide +kernel
theorem dX8_takesPair_85 : decode cX8_takesPair 85 = .ok (.istore_n 2, 1) := by decide +kernel
theorem dX8_takesPair_86 : decode cX8_takesPair 86 = .ok (.aload_n 0, 1) := by decide +kernel
theorem dX8_takesPair_87 : decode cX8_takesPair 87 = .ok (.getfield 13, 3) := by decide +kernel
theorem dX8_takesPair_90 : decode cX8_takesPair 90 = .ok (.iload_n 1, 1) := by decide +kernel
theorem dX8_takesPair_91 : decode cX8_takesPair 91 = .ok (.iaload, 1) := by decide +kernel
theorem dX8_takesPair_92 : decode cX8_takesPair 92 = .ok (.bipush (-4), 2) := by decide +kernel
theorem dX8_takesPair_94 : decode cX8_takesPair 94 = .ok (.if_icmp .ne 18, 3) := by decide +kernel
theorem dX8_takesPair_97 : decode cX8_takesPair 97 = .ok (.aload_n 0, 1) := by decide +kernel
theorem dX8_takesPair_98 : decode cX8_takesPair 98 = .ok (.getfield 13, 3) := by decide +kernel
theorem dX8_takesPair_101 : decode cX8_takesPair 101 = .ok (.iload_n 2, 1) := by decide +kernel
theorem dX8_takesPair_102 : decode cX8_takesPair 102 = .ok (.iaload, 1) := by decide +kernel
theorem dX8_takesPair_103 : decode cX8_takesPair 103 = .ok (.bipush (-4), 2) := by decide +kernel
theorem dX8_takesPair_105 : decode cX8_takesPair 105 = .ok (.if_icmp .ne 7, 3) := by decide +kernel
theorem dX8_takesPair_108 : decode cX8_takesPair 108 = .ok (.iconst 1, 1) := by decide +kernel
theorem dX8_takesPair_109 : decode cX8_takesPair 109 = .ok (.goto 4, 3) := by decide +kernel
theorem dX8_takesPair_112 : decode cX8_takesPair 112 = .ok (.iconst 0, 1) := by decide +kernel
theorem dX8_takesPair_113 : decode cX8_takesPair 113 = .ok (.istore_n 3, 1) := by decide +kernel
theorem dX8_takesPair_114 : decode cX8_takesPair 114 = .ok (.aload_n 0, 1) := by decide +kernel
theorem dX8_takesPair_115 : decode cX8_takesPair 115 = .ok (.getfield 13, 3) := by decide +kernel
theorem dX8_takesPair_118 : decode cX8_takesPair 118 = .ok (.iload_n 1, 1) := by decide +kernel
theorem dX8_takesPair_119 : decode cX8_takesPair 119 = .ok (.aload_n 0, 1) := by decide +kernel
theorem dX8_takesPair_120 : decode cX8_takesPair 120 = .ok (.getfield 22, 3) := by decide +kernel
theorem dX8_takesPair_123 : decode cX8_takesPair 123 = .ok (.iconst 1, 1) := by decide +kernel
theorem dX8_takesPair_124 : decode cX8_takesPair 124 = .ok (.iaload, 1) := by decide +kernel
theorem dX8_takesPair_125 : decode cX8_takesPair 125 = .ok (.iastore, 1) := by decide +kernel
theorem dX8_takesPair_126 : decode cX8_takesPair 126 = .ok (.aload_n 0, 1) := by decide +kernel
theorem dX8_takesPair_127 : decode cX8_takesPair 127 = .ok (.getfield 13, 3) := by decide +kernel
theorem dX8_takesPair_130 : decode cX8_takesPair 130 = .ok (.iload_n 2, 1) := by decide +kernel
theorem dX8_takesPair_131 : decode cX8_takesPair 131 = .ok (.aload_n 0, 1) := by decide +kernel
theorem dX8_takesPair_132 : decode cX8_takesPair 132 = .ok (.getfield 22, 3) := by decide +kernel
theorem dX8_takesPair_135 : decode cX8_takesPair 135 = .ok (.iconst 0, 1) := by decide +kernel
theorem dX8_takesPair_136 : decode cX8_takesPair 136 = .ok (.iaload, 1) := by decide +kernel
theorem dX8_takesPair_137 : decode cX8_takesPair 137 = .ok (.iastore, 1) := by decide +kernel
theorem dX8_takesPair_138 : decode cX8_takesPair 138 = .ok (.iload_n 3, 1) := by decide +kernel
theorem dX8_takesPair_139 : decode cX8_takesPair 139 = .ok (.ireturn, 1) := by decide +kernel
theorem dX8_takesGap_0 : decode cX8_takesGap 0 = .ok (.aload_n 0, 1) := by decide +kernel
theorem dX8_takesGap_1 : decode cX8_takesGap 1 = .ok (.iconst 1, 1) := by decide +kernel
theorem dX8_takesGap_2 : decode cX8_takesGap 2 = .ok (.iconst 1, 1) := by decide +kernel
theorem dX8_takesGap_3 : decode cX8_takesGap 3 = .ok (.invokevirtual 73, 3) := by decide +kernel
theorem dX8_takesGap_6 : decode cX8_takesGap 6 = .ok (.ifCond .eq 18, 3) := by decide +kernel
theorem dX8_takesGap_9 : decode cX8_takesGap 9 = .ok (.aload_n 0, 1) := by decide +kernel
theorem dX8_takesGap_10 : decode cX8_takesGap 10 = .ok (.getfield 22, 3) := by decide +kernel
theorem dX8_takesGap_13 : decode cX8_takesGap 13 = .ok (.iconst 0, 1) := by decide +kernel
theorem dX8_takesGap_14 : decode cX8_takesGap 14 = .ok (.iaload, 1) := by decide +kernel
theorem dX8_takesGap_15 : decode cX8_takesGap 15 = .ok (.bipush 10, 2) := by decide +kernel
theorem dX8_takesGap_17 : decode cX8_takesGap 17 = .ok (.if_icmp .ge 7, 3) := by decide +kernel
theorem dX8_takesGap_20 : decode cX8_takesGap 20 = .ok (.iconst 1, 1) := by decide +kernel
theorem dX8_takesGap_21 : decode cX8_takesGap 21 = .ok (.goto 4, 3) := by decide +kernel
theorem dX8_takesGap_24 : decode cX8_takesGap 24 = .ok (.iconst 0, 1) := by decide +kernel
theorem dX8_takesGap_25 : decode cX8_takesGap 25 = .ok (.istore_n 1, 1) := by decide +kernel
theorem dX8_takesGap_26 : decode cX8_takesGap 26 = .ok (.aload_n 0, 1) := by decide +kernel
theorem dX8_takesGap_27 : decode cX8_takesGap 27 = .ok (.getfield 13, 3) := by decide +kernel
theorem dX8_takesGap_30 : decode cX8_takesGap 30 = .ok (.iconst 3, 1) := by decide +kernel
theorem dX8_takesGap_31 : decode cX8_takesGap 31 = .ok (.aload_n 0, 1) := by decide +kernel
theorem dX8_takesGap_32 : decode cX8_takesGap 32 = .ok (.getfield 22, 3) := by decide +kernel
theorem dX8_takesGap_35 : decode cX8_takesGap 35 = .ok (.iconst 0, 1) := by decide +kernel
theorem dX8_takesGap_36 : decode cX8_takesGap 36 = .ok (.iaload, 1) := by decide +kernel
theorem dX8_takesGap_37 : decode cX8_takesGap 37 = .ok (.iastore, 1) := by decide +kernel
theorem dX8_takesGap_38 : decode cX8_takesGap 38 = .ok (.iload_n 1, 1) := by decide +kernel
theorem dX8_takesGap_39 : decode cX8_takesGap 39 = .ok (.ireturn, 1) := by decide +kernel
theorem dX8_takesItem_0 : decode cX8_takesItem 0 = .ok (.aload_n 0, 1) := by decide +kernel
theorem dX8_takesItem_1 : decode cX8_takesItem 1 = .ok (.bipush 121, 2) := by decide +kernel
theorem dX8_takesItem_3 : decode cX8_takesItem 3 = .ok (.bipush 97, 2) := by decide +kernel
theorem dX8_takesItem_5 : decode cX8_takesItem 5 = .ok (.bipush 114, 2) := by decide +kernel
theorem dX8_takesItem_7 : decode cX8_takesItem 7 = .ok (.bipush 100, 2) := by decide +kernel
theorem dX8_takesItem_9 : decode cX8_takesItem 9 = .ok (.invokevirtual 76, 3) := by decide +kernel
theorem dX8_takesItem_12 : decode cX8_takesItem 12 = .ok (.ifCond .eq 8, 3) := by decide +kernel
theorem dX8_takesItem_15 : decode cX8_takesItem 15 = .ok (.aload_n 0, 1) := by decide +kernel
theorem dX8_takesItem_16 : decode cX8_takesItem 16 = .ok (.invokevirtual 80, 3) := by decide +kernel
theorem dX8_takesItem_19 : decode cX8_takesItem 19 = .ok (.ireturn, 1) := by decide +kernel
theorem dX8_takesItem_20 : decode cX8_takesItem 20 = .ok (.aload_n 0, 1) := by decide +kernel
theorem dX8_takesItem_21 : decode cX8_takesItem 21 = .ok (.getfield 13, 3) := by decide +kernel
theorem dX8_takesItem_24 : decode cX8_takesItem 24 = .ok (.iconst 0, 1) := by decide +kernel
theorem dX8_takesItem_25 : decode cX8_takesItem 25 = .ok (.iaload, 1) := by decide +kernel
theorem dX8_takesItem_26 : decode cX8_takesItem 26 = .ok (.ifCond .ne 5, 3) := by decide +kernel
theorem dX8_takesItem_29 : decode cX8_takesItem 29 = .ok (.iconst 0, 1) := by decide +kernel
theorem dX8_takesItem_30 : decode cX8_takesItem 30 = .ok (.ireturn, 1) := by decide +kernel
theorem dX8_takesItem_31 : decode cX8_takesItem 31 = .ok (.aload_n 0, 1) := by decide +kernel
theorem dX8_takesItem_32 : decode cX8_takesItem 32 = .ok (.bipush 112, 2) := by decide +kernel
theorem dX8_takesItem_34 : decode cX8_takesItem 34 = .ok (.bipush 97, 2) := by decide +kernel
theorem dX8_takesItem_36 : decode cX8_takesItem 36 = .ok (.bipush 116, 2) := by decide +kernel
theorem dX8_takesItem_38 : decode cX8_takesItem 38 = .ok (.bipush 104, 2) := by decide +kernel
theorem dX8_takesItem_40 : decode cX8_takesItem 40 = .ok (.invokevirtual 76, 3) := by decide +kernel
theorem dX8_takesItem_43 : decode cX8_takesItem 43 = .ok (.ifCond .eq 8, 3) := by decide +kernel
theorem dX8_takesItem_46 : decode cX8_takesItem 46 = .ok (.aload_n 0, 1) := by decide +kernel
theorem dX8_takesItem_47 : decode cX8_takesItem 47 = .ok (.invokevirtual 83, 3) := by decide +kernel
theorem dX8_takesItem_50 : decode cX8_takesItem 50 = .ok (.ireturn, 1) := by decide +kernel
theorem dX8_takesItem_51 : decode cX8_takesItem 51 = .ok (.aload_n 0, 1) := by decide +kernel
theorem dX8_takesItem_52 : decode cX8_takesItem 52 = .ok (.bipush 99, 2) := by decide +kernel
theorem dX8_takesItem_54 : decode cX8_takesItem 54 = .ok (.bipush 111, 2) := by decide +kernel
theorem dX8_takesItem_56 : decode cX8_takesItem 56 = .ok (.bipush 109, 2) := by decide +kernel
theorem dX8_takesItem_58 : decode cX8_takesItem 58 = .ok (.bipush 101, 2) := by decide +kernel
theorem dX8_takesItem_60 : decode cX8_takesItem 60 = .ok (.invokevirtual 76, 3) := by decide +kernel
theorem dX8_takesItem_63 : decode cX8_takesItem 63 = .ok (.ifCond .eq 8, 3) := by decide +kernel
theorem dX8_takesItem_66 : decode cX8_takesItem 66 = .ok (.aload_n 0, 1) := by decide +kernel
theorem dX8_takesItem_67 : decode cX8_takesItem 67 = .ok (.invokevirtual 86, 3) := by decide +kernel
theorem dX8_takesItem_70 : decode cX8_takesItem 70 = .ok (.ireturn, 1) := by decide +kernel
theorem dX8_takesItem_71 : decode cX8_takesItem 71 = .ok (.aload_n 0, 1) := by decide +kernel
theorem dX8_takesItem_72 : decode cX8_takesItem 72 = .ok (.bipush 112, 2) := by decide +kernel
theorem dX8_takesItem_74 : decode cX8_takesItem 74 = .ok (.bipush 97, 2) := by decide +kernel
theorem dX8_takesItem_76 : decode cX8_takesItem 76 = .ok (.bipush 105, 2) := by decide +kernel
theorem dX8_takesItem_78 : decode cX8_takesItem 78 = .ok (.bipush 114, 2) := by decide +kernel
theorem dX8_takesItem_80 : decode cX8_takesItem 80 = .ok (.invokevirtual 76, 3) := by decide +kernel
theorem dX8_takesItem_83 : decode cX8_takesItem 83 = .ok (.ifCond .eq 8, 3) := by decide +kernel
theorem dX8_takesItem_86 : decode cX8_takesItem 86 = .ok (.aload_n 0, 1) := by decide +kernel
theorem dX8_takesItem_87 : decode cX8_takesItem 87 = .ok (.invokevirtual 89, 3) := by decide +kernel
theorem dX8_takesItem_90 : decode cX8_takesItem 90 = .ok (.ireturn, 1) := by decide +kernel
theorem dX8_takesItem_91 : decode cX8_takesItem 91 = .ok (.aload_n 0, 1) := by decide +kernel
theorem dX8_takesItem_92 : decode cX8_takesItem 92 = .ok (.bipush 115, 2) := by decide +kernel
theorem dX8_takesItem_94 : decode cX8_takesItem 94 = .ok (.bipush 112, 2) := by decide +kernel
theorem dX8_takesItem_96 : decode cX8_takesItem 96 = .ok (.bipush 97, 2) := by decide +kernel
theorem dX8_takesItem_98 : decode cX8_takesItem 98 = .ok (.bipush 110, 2) := by decide +kernel
theorem dX8_takesItem_100 : decode cX8_takesItem 100 = .ok (.invokevirtual 76, 3) := by decide +kernel
theorem dX8_takesItem_103 : decode cX8_takesItem 103 = .ok (.ifCond .eq 14, 3) := by decide +kernel
theorem dX8_takesItem_106 : decode cX8_takesItem 106 = .ok (.aload_n 0, 1) := by decide +kernel
theorem dX8_takesItem_107 : decode cX8_takesItem 107 = .ok (.invokevirtual 92, 3) := by decide +kernel
theorem dX8_takesItem_110 : decode cX8_takesItem 110 = .ok (.ifCond .eq 7, 3) := by decide +kernel
theorem dX8_takesItem_113 : decode cX8_takesItem 113 = .ok (.iconst 1, 1) := by decide +kernel
theorem dX8_takesItem_114 : decode cX8_takesItem 114 = .ok (.goto 4, 3) := by decide +kernel
theorem dX8_takesItem_117 : decode cX8_takesItem 117 = .ok (.iconst 0, 1) := by decide +kernel
theorem dX8_takesItem_118 : decode cX8_takesItem 118 = .ok (.ireturn, 1) := by decide +kernel
theorem dX8_reads_0 : decode cX8_reads 0 = .ok (.aload_n 0, 1) := by decide +kernel
theorem dX8_reads_1 : decode cX8_reads 1 = .ok (.invokevirtual 38, 3) := by decide +kernel
theorem dX8_reads_4 : decode cX8_reads 4 = .ok (.aload_n 0, 1) := by decide +kernel
theorem dX8_reads_5 : decode cX8_reads 5 = .ok (.iconst 0, 1) := by decide +kernel
theorem dX8_reads_6 : decode cX8_reads 6 = .ok (.putfield 52, 3) := by decide +kernel
theorem dX8_reads_9 : decode cX8_reads 9 = .ok (.aload_n 0, 1) := by decide +kernel
theorem dX8_reads_10 : decode cX8_reads 10 = .ok (.getfield 52, 3) := by decide +kernel
theorem dX8_reads_13 : decode cX8_reads 13 = .ok (.aload_n 0, 1) := by decide +kernel
theorem dX8_reads_14 : decode cX8_reads 14 = .ok (.getfield 55, 3) := by decide +kernel
theorem dX8_reads_17 : decode cX8_reads 17 = .ok (.if_icmp .ge 20, 3) := by decide +kernel
theorem dX8_reads_20 : decode cX8_reads 20 = .ok (.aload_n 0, 1) := by decide +kernel
theorem dX8_reads_21 : decode cX8_reads 21 = .ok (.getfield 52, 3) := by decide +kernel
theorem dX8_reads_24 : decode cX8_reads 24 = .ok (.istore_n 1, 1) := by decide +kernel
theorem dX8_reads_25 : decode cX8_reads 25 = .ok (.aload_n 0, 1) := by decide +kernel
theorem dX8_reads_26 : decode cX8_reads 26 = .ok (.invokevirtual 95, 3) := by decide +kernel
theorem dX8_reads_29 : decode cX8_reads 29 = .ok (.ifCond .ne 5, 3) := by decide +kernel
theorem dX8_reads_32 : decode cX8_reads 32 = .ok (.iload_n 1, 1) := by decide +kernel
theorem dX8_reads_33 : decode cX8_reads 33 = .ok (.ireturn, 1) := by decide +kernel
theorem dX8_reads_34 : decode cX8_reads 34 = .ok (.goto (-25), 3) := by decide +kernel
theorem dX8_reads_37 : decode cX8_reads 37 = .ok (.bipush (-4), 2) := by decide +kernel
theorem dX8_reads_39 : decode cX8_reads 39 = .ok (.ireturn, 1) := by decide +kernel
theorem dX8_write_0 : decode cX8_write 0 = .ok (.iload_n 1, 1) := by decide +kernel
theorem dX8_write_1 : decode cX8_write 1 = .ok (.bipush 32, 2) := by decide +kernel
theorem dX8_write_3 : decode cX8_write 3 = .ok (.bipush 126, 2) := by decide +kernel
theorem dX8_write_5 : decode cX8_write 5 = .ok (.invokestatic 58, 3) := by decide +kernel
theorem dX8_write_8 : decode cX8_write 8 = .ok (.ifCond .ne 5, 3) := by decide +kernel
theorem dX8_write_11 : decode cX8_write 11 = .ok (.iconst (-1), 1) := by decide +kernel
theorem dX8_write_12 : decode cX8_write 12 = .ok (.ireturn, 1) := by decide +kernel
theorem dX8_write_13 : decode cX8_write 13 = .ok (.aload_n 0, 1) := by decide +kernel
theorem dX8_write_14 : decode cX8_write 14 = .ok (.getfield 55, 3) := by decide +kernel
theorem dX8_write_17 : decode cX8_write 17 = .ok (.sipush 200, 3) := by decide +kernel
theorem dX8_write_20 : decode cX8_write 20 = .ok (.if_icmp .ne 6, 3) := by decide +kernel
theorem dX8_write_23 : decode cX8_write 23 = .ok (.bipush (-3), 2) := by decide +kernel
theorem dX8_write_25 : decode cX8_write 25 = .ok (.ireturn, 1) := by decide +kernel
theorem dX8_write_26 : decode cX8_write 26 = .ok (.aload_n 0, 1) := by decide +kernel
theorem dX8_write_27 : decode cX8_write 27 = .ok (.getfield 19, 3) := by decide +kernel
theorem dX8_write_30 : decode cX8_write 30 = .ok (.aload_n 0, 1) := by decide +kernel
theorem dX8_write_31 : decode cX8_write 31 = .ok (.getfield 55, 3) := by decide +kernel
theorem dX8_write_34 : decode cX8_write 34 = .ok (.iload_n 1, 1) := by decide +kernel
theorem dX8_write_35 : decode cX8_write 35 = .ok (.iastore, 1) := by decide +kernel
theorem dX8_write_36 : decode cX8_write 36 = .ok (.aload_n 0, 1) := by decide +kernel
theorem dX8_write_37 : decode cX8_write 37 = .ok (.dup, 1) := by decide +kernel
theorem dX8_write_38 : decode cX8_write 38 = .ok (.getfield 55, 3) := by decide +kernel
theorem dX8_write_41 : decode cX8_write 41 = .ok (.iconst 1, 1) := by decide +kernel
theorem dX8_write_42 : decode cX8_write 42 = .ok (.iadd, 1) := by decide +kernel
theorem dX8_write_43 : decode cX8_write 43 = .ok (.putfield 55, 3) := by decide +kernel
theorem dX8_write_46 : decode cX8_write 46 = .ok (.aload_n 0, 1) := by decide +kernel
theorem dX8_write_47 : decode cX8_write 47 = .ok (.getfield 55, 3) := by decide +kernel
theorem dX8_write_50 : decode cX8_write 50 = .ok (.ireturn, 1) := by decide +kernel
theorem dX8_wipe_0 : decode cX8_wipe 0 = .ok (.aload_n 0, 1) := by decide +kernel
theorem dX8_wipe_1 : decode cX8_wipe 1 = .ok (.getfield 55, 3) := by decide +kernel
theorem dX8_wipe_4 : decode cX8_wipe 4 = .ok (.istore_n 1, 1) := by decide +kernel
theorem dX8_wipe_5 : decode cX8_wipe 5 = .ok (.aload_n 0, 1) := by decide +kernel
theorem dX8_wipe_6 : decode cX8_wipe 6 = .ok (.iconst 0, 1) := by decide +kernel
theorem dX8_wipe_7 : decode cX8_wipe 7 = .ok (.putfield 55, 3) := by decide +kernel
theorem dX8_wipe_10 : decode cX8_wipe 10 = .ok (.iload_n 1, 1) := by decide +kernel
theorem dX8_wipe_11 : decode cX8_wipe 11 = .ok (.ireturn, 1) := by decide +kernel
theorem dX8_fault_0 : decode cX8_fault 0 = .ok (.aload_n 0, 1) := by decide +kernel
theorem dX8_fault_1 : decode cX8_fault 1 = .ok (.invokevirtual 98, 3) := by decide +kernel
theorem dX8_fault_4 : decode cX8_fault 4 = .ok (.ireturn, 1) := by decide +kernel
theorem dX8_lay_0 : decode cX8_lay 0 = .ok (.aload_n 0, 1) := by decide +kernel
theorem dX8_lay_1 : decode cX8_lay 1 = .ok (.invokevirtual 98, 3) := by decide +kernel
theorem dX8_lay_4 : decode cX8_lay 4 = .ok (.bipush (-4), 2) := by decide +kernel
theorem dX8_lay_6 : decode cX8_lay 6 = .ok (.if_icmp .ne 12, 3) := by decide +kernel
theorem dX8_lay_9 : decode cX8_lay 9 = .ok (.aload_n 0, 1) := by decide +kernel
theorem dX8_lay_10 : decode cX8_lay 10 = .ok (.getfield 13, 3) := by decide +kernel
theorem dX8_lay_13 : decode cX8_lay 13 = .ok (.iconst 0, 1) := by decide +kernel
theorem dX8_lay_14 : decode cX8_lay 14 = .ok (.iaload, 1) := by decide +kernel
theorem dX8_lay_15 : decode cX8_lay 15 = .ok (.ifCond .ne 6, 3) := by decide +kernel
theorem dX8_lay_18 : decode cX8_lay 18 = .ok (.bipush (-2), 2) := by decide +kernel
theorem dX8_lay_20 : decode cX8_lay 20 = .ok (.ireturn, 1) := by decide +kernel
theorem dX8_lay_21 : decode cX8_lay 21 = .ok (.aload_n 0, 1) := by decide +kernel
theorem dX8_lay_22 : decode cX8_lay 22 = .ok (.invokevirtual 45, 3) := by decide +kernel
theorem dX8_lay_25 : decode cX8_lay 25 = .ok (.aload_n 0, 1) := by decide +kernel
theorem dX8_lay_26 : decode cX8_lay 26 = .ok (.getfield 7, 3) := by decide +kernel
theorem dX8_lay_29 : decode cX8_lay 29 = .ok (.iconst 2, 1) := by decide +kernel
theorem dX8_lay_30 : decode cX8_lay 30 = .ok (.iaload, 1) := by decide +kernel
theorem dX8_lay_31 : decode cX8_lay 31 = .ok (.ireturn, 1) := by decide +kernel
theorem dX8_keeps_0 : decode cX8_keeps 0 = .ok (.aload_n 0, 1) := by decide +kernel
theorem dX8_keeps_1 : decode cX8_keeps 1 = .ok (.getfield 48, 3) := by decide +kernel
theorem dX8_keeps_4 : decode cX8_keeps 4 = .ok (.bipush 6, 2) := by decide +kernel
theorem dX8_keeps_6 : decode cX8_keeps 6 = .ok (.if_icmp .ne 43, 3) := by decide +kernel
theorem dX8_keeps_9 : decode cX8_keeps 9 = .ok (.iconst 0, 1) := by decide +kernel
theorem dX8_keeps_10 : decode cX8_keeps 10 = .ok (.istore_n 1, 1) := by decide +kernel
theorem dX8_keeps_11 : decode cX8_keeps 11 = .ok (.iload_n 1, 1) := by decide +kernel
theorem dX8_keeps_12 : decode cX8_keeps 12 = .ok (.sipush 325, 3) := by decide +kernel
theorem dX8_keeps_15 : decode cX8_keeps 15 = .ok (.if_icmp .ge 24, 3) := by decide +kernel
theorem dX8_keeps_18 : decode cX8_keeps 18 = .ok (.aload_n 0, 1) := by decide +kernel
theorem dX8_keeps_19 : decode cX8_keeps 19 = .ok (.getfield 16, 3) := by decide +kernel
theorem dX8_keeps_22 : decode cX8_keeps 22 = .ok (.iload_n 1, 1) := by decide +kernel
theorem dX8_keeps_23 : decode cX8_keeps 23 = .ok (.aload_n 0, 1) := by decide +kernel
theorem dX8_keeps_24 : decode cX8_keeps 24 = .ok (.getfield 16, 3) := by decide +kernel
theorem dX8_keeps_27 : decode cX8_keeps 27 = .ok (.iload_n 1, 1) := by decide +kernel
theorem dX8_keeps_28 : decode cX8_keeps 28 = .ok (.bipush 65, 2) := by decide +kernel
theorem dX8_keeps_30 : decode cX8_keeps 30 = .ok (.iadd, 1) := by decide +kernel
theorem dX8_keeps_31 : decode cX8_keeps 31 = .ok (.iaload, 1) := by decide +kernel
theorem dX8_keeps_32 : decode cX8_keeps 32 = .ok (.iastore, 1) := by decide +kernel
theorem dX8_keeps_33 : decode cX8_keeps 33 = .ok (.iinc 1 1, 3) := by decide +kernel
theorem dX8_keeps_36 : decode cX8_keeps 36 = .ok (.goto (-25), 3) := by decide +kernel
theorem dX8_keeps_39 : decode cX8_keeps 39 = .ok (.aload_n 0, 1) := by decide +kernel
theorem dX8_keeps_40 : decode cX8_keeps 40 = .ok (.dup, 1) := by decide +kernel
theorem dX8_keeps_41 : decode cX8_keeps 41 = .ok (.getfield 48, 3) := by decide +kernel
theorem dX8_keeps_44 : decode cX8_keeps 44 = .ok (.iconst 1, 1) := by decide +kernel
theorem dX8_keeps_45 : decode cX8_keeps 45 = .ok (.isub, 1) := by decide +kernel
theorem dX8_keeps_46 : decode cX8_keeps 46 = .ok (.putfield 48, 3) := by decide +kernel
theorem dX8_keeps_49 : decode cX8_keeps 49 = .ok (.iconst 0, 1) := by decide +kernel
theorem dX8_keeps_50 : decode cX8_keeps 50 = .ok (.istore_n 1, 1) := by decide +kernel
theorem dX8_keeps_51 : decode cX8_keeps 51 = .ok (.iload_n 1, 1) := by decide +kernel
theorem dX8_keeps_52 : decode cX8_keeps 52 = .ok (.bipush 65, 2) := by decide +kernel
theorem dX8_keeps_54 : decode cX8_keeps 54 = .ok (.if_icmp .ge 29, 3) := by decide +kernel
theorem dX8_keeps_57 : decode cX8_keeps 57 = .ok (.aload_n 0, 1) := by decide +kernel
theorem dX8_keeps_58 : decode cX8_keeps 58 = .ok (.getfield 16, 3) := by decide +kernel
theorem dX8_keeps_61 : decode cX8_keeps 61 = .ok (.bipush 65, 2) := by decide +kernel
theorem dX8_keeps_63 : decode cX8_keeps 63 = .ok (.aload_n 0, 1) := by decide +kernel
theorem dX8_keeps_64 : decode cX8_keeps 64 = .ok (.getfield 48, 3) := by decide +kernel
theorem dX8_keeps_67 : decode cX8_keeps 67 = .ok (.imul, 1) := by decide +kernel
theorem dX8_keeps_68 : decode cX8_keeps 68 = .ok (.iload_n 1, 1) := by decide +kernel
theorem dX8_keeps_69 : decode cX8_keeps 69 = .ok (.iadd, 1) := by decide +kernel
theorem dX8_keeps_70 : decode cX8_keeps 70 = .ok (.aload_n 0, 1) := by decide +kernel
theorem dX8_keeps_71 : decode cX8_keeps 71 = .ok (.getfield 7, 3) := by decide +kernel
theorem dX8_keeps_74 : decode cX8_keeps 74 = .ok (.iload_n 1, 1) := by decide +kernel
theorem dX8_keeps_75 : decode cX8_keeps 75 = .ok (.iaload, 1) := by decide +kernel
theorem dX8_keeps_76 : decode cX8_keeps 76 = .ok (.iastore, 1) := by decide +kernel
theorem dX8_keeps_77 : decode cX8_keeps 77 = .ok (.iinc 1 1, 3) := by decide +kernel
theorem dX8_keeps_80 : decode cX8_keeps 80 = .ok (.goto (-29), 3) := by decide +kernel
theorem dX8_keeps_83 : decode cX8_keeps 83 = .ok (.aload_n 0, 1) := by decide +kernel
theorem dX8_keeps_84 : decode cX8_keeps 84 = .ok (.dup, 1) := by decide +kernel
theorem dX8_keeps_85 : decode cX8_keeps 85 = .ok (.getfield 48, 3) := by decide +kernel
theorem dX8_keeps_88 : decode cX8_keeps 88 = .ok (.iconst 1, 1) := by decide +kernel
theorem dX8_keeps_89 : decode cX8_keeps 89 = .ok (.iadd, 1) := by decide +kernel
theorem dX8_keeps_90 : decode cX8_keeps 90 = .ok (.putfield 48, 3) := by decide +kernel
theorem dX8_keeps_93 : decode cX8_keeps 93 = .ok (.return_, 1) := by decide +kernel
theorem dX8_undo_0 : decode cX8_undo 0 = .ok (.aload_n 0, 1) := by decide +kernel
theorem dX8_undo_1 : decode cX8_undo 1 = .ok (.getfield 48, 3) := by decide +kernel
theorem dX8_undo_4 : decode cX8_undo 4 = .ok (.ifCond .ne 6, 3) := by decide +kernel
theorem dX8_undo_7 : decode cX8_undo 7 = .ok (.bipush (-2), 2) := by decide +kernel
theorem dX8_undo_9 : decode cX8_undo 9 = .ok (.ireturn, 1) := by decide +kernel
theorem dX8_undo_10 : decode cX8_undo 10 = .ok (.aload_n 0, 1) := by decide +kernel
theorem dX8_undo_11 : decode cX8_undo 11 = .ok (.dup, 1) := by decide +kernel
theorem dX8_undo_12 : decode cX8_undo 12 = .ok (.getfield 48, 3) := by decide +kernel
theorem dX8_undo_15 : decode cX8_undo 15 = .ok (.iconst 1, 1) := by decide +kernel
theorem dX8_undo_16 : decode cX8_undo 16 = .ok (.isub, 1) := by decide +kernel
theorem dX8_undo_17 : decode cX8_undo 17 = .ok (.putfield 48, 3) := by decide +kernel
theorem dX8_undo_20 : decode cX8_undo 20 = .ok (.iconst 0, 1) := by decide +kernel
theorem dX8_undo_21 : decode cX8_undo 21 = .ok (.istore_n 1, 1) := by decide +kernel
theorem dX8_undo_22 : decode cX8_undo 22 = .ok (.iload_n 1, 1) := by decide +kernel
theorem dX8_undo_23 : decode cX8_undo 23 = .ok (.bipush 65, 2) := by decide +kernel
theorem dX8_undo_25 : decode cX8_undo 25 = .ok (.if_icmp .ge 29, 3) := by decide +kernel
theorem dX8_undo_28 : decode cX8_undo 28 = .ok (.aload_n 0, 1) := by decide +kernel
theorem dX8_undo_29 : decode cX8_undo 29 = .ok (.getfield 7, 3) := by decide +kernel
theorem dX8_undo_32 : decode cX8_undo 32 = .ok (.iload_n 1, 1) := by decide +kernel
theorem dX8_undo_33 : decode cX8_undo 33 = .ok (.aload_n 0, 1) := by decide +kernel
theorem dX8_undo_34 : decode cX8_undo 34 = .ok (.getfield 16, 3) := by decide +kernel
theorem dX8_undo_37 : decode cX8_undo 37 = .ok (.bipush 65, 2) := by decide +kernel
theorem dX8_undo_39 : decode cX8_undo 39 = .ok (.aload_n 0, 1) := by decide +kernel
theorem dX8_undo_40 : decode cX8_undo 40 = .ok (.getfield 48, 3) := by decide +kernel
theorem dX8_undo_43 : decode cX8_undo 43 = .ok (.imul, 1) := by decide +kernel
theorem dX8_undo_44 : decode cX8_undo 44 = .ok (.iload_n 1, 1) := by decide +kernel
theorem dX8_undo_45 : decode cX8_undo 45 = .ok (.iadd, 1) := by decide +kernel
theorem dX8_undo_46 : decode cX8_undo 46 = .ok (.iaload, 1) := by decide +kernel
theorem dX8_undo_47 : decode cX8_undo 47 = .ok (.iastore, 1) := by decide +kernel
theorem dX8_undo_48 : decode cX8_undo 48 = .ok (.iinc 1 1, 3) := by decide +kernel
theorem dX8_undo_51 : decode cX8_undo 51 = .ok (.goto (-29), 3) := by decide +kernel
theorem dX8_undo_54 : decode cX8_undo 54 = .ok (.aload_n 0, 1) := by decide +kernel
theorem dX8_undo_55 : decode cX8_undo 55 = .ok (.getfield 48, 3) := by decide +kernel
theorem dX8_undo_58 : decode cX8_undo 58 = .ok (.ireturn, 1) := by decide +kernel
theorem dX8_isTrack_0 : decode cX8_isTrack 0 = .ok (.iload_n 1, 1) := by decide +kernel
theorem dX8_isTrack_1 : decode cX8_isTrack 1 = .ok (.iconst 0, 1) := by decide +kernel
theorem dX8_isTrack_2 : decode cX8_isTrack 2 = .ok (.aload_n 0, 1) := by decide +kernel
theorem dX8_isTrack_3 : decode cX8_isTrack 3 = .ok (.getfield 7, 3) := by decide +kernel
theorem dX8_isTrack_6 : decode cX8_isTrack 6 = .ok (.iconst 1, 1) := by decide +kernel
theorem dX8_isTrack_7 : decode cX8_isTrack 7 = .ok (.iaload, 1) := by decide +kernel
theorem dX8_isTrack_8 : decode cX8_isTrack 8 = .ok (.iconst 1, 1) := by decide +kernel
theorem dX8_isTrack_9 : decode cX8_isTrack 9 = .ok (.isub, 1) := by decide +kernel
theorem dX8_isTrack_10 : decode cX8_isTrack 10 = .ok (.invokestatic 58, 3) := by decide +kernel
theorem dX8_isTrack_13 : decode cX8_isTrack 13 = .ok (.ireturn, 1) := by decide +kernel
theorem dX8_isTrain_0 : decode cX8_isTrain 0 = .ok (.iload_n 1, 1) := by decide +kernel
theorem dX8_isTrain_1 : decode cX8_isTrain 1 = .ok (.iconst 0, 1) := by decide +kernel
theorem dX8_isTrain_2 : decode cX8_isTrain 2 = .ok (.aload_n 0, 1) := by decide +kernel
theorem dX8_isTrain_3 : decode cX8_isTrain 3 = .ok (.getfield 7, 3) := by decide +kernel
theorem dX8_isTrain_6 : decode cX8_isTrain 6 = .ok (.iconst 2, 1) := by decide +kernel
theorem dX8_isTrain_7 : decode cX8_isTrain 7 = .ok (.iaload, 1) := by decide +kernel
theorem dX8_isTrain_8 : decode cX8_isTrain 8 = .ok (.iconst 1, 1) := by decide +kernel
theorem dX8_isTrain_9 : decode cX8_isTrain 9 = .ok (.isub, 1) := by decide +kernel
theorem dX8_isTrain_10 : decode cX8_isTrain 10 = .ok (.invokestatic 58, 3) := by decide +kernel
theorem dX8_isTrain_13 : decode cX8_isTrain 13 = .ok (.ireturn, 1) := by decide +kernel
theorem dX8_of_0 : decode cX8_of 0 = .ok (.aload_n 0, 1) := by decide +kernel
theorem dX8_of_1 : decode cX8_of 1 = .ok (.getfield 7, 3) := by decide +kernel
theorem dX8_of_4 : decode cX8_of 4 = .ok (.bipush 16, 2) := by decide +kernel
theorem dX8_of_6 : decode cX8_of 6 = .ok (.bipush 7, 2) := by decide +kernel
theorem dX8_of_8 : decode cX8_of 8 = .ok (.iload_n 1, 1) := by decide +kernel
theorem dX8_of_9 : decode cX8_of 9 = .ok (.imul, 1) := by decide +kernel
theorem dX8_of_10 : decode cX8_of 10 = .ok (.iadd, 1) := by decide +kernel
theorem dX8_of_11 : decode cX8_of 11 = .ok (.iload_n 2, 1) := by decide +kernel
theorem dX8_of_12 : decode cX8_of 12 = .ok (.iadd, 1) := by decide +kernel
theorem dX8_of_13 : decode cX8_of 13 = .ok (.iaload, 1) := by decide +kernel
theorem dX8_of_14 : decode cX8_of 14 = .ok (.ireturn, 1) := by decide +kernel
theorem dX8_becomes_0 : decode cX8_becomes 0 = .ok (.aload_n 0, 1) := by decide +kernel
theorem dX8_becomes_1 : decode cX8_becomes 1 = .ok (.getfield 7, 3) := by decide +kernel
theorem dX8_becomes_4 : decode cX8_becomes 4 = .ok (.bipush 16, 2) := by decide +kernel
theorem dX8_becomes_6 : decode cX8_becomes 6 = .ok (.bipush 7, 2) := by decide +kernel
theorem dX8_becomes_8 : decode cX8_becomes 8 = .ok (.iload_n 1, 1) := by decide +kernel
theorem dX8_becomes_9 : decode cX8_becomes 9 = .ok (.imul, 1) := by decide +kernel
theorem dX8_becomes_10 : decode cX8_becomes 10 = .ok (.iadd, 1) := by decide +kernel
theorem dX8_becomes_11 : decode cX8_becomes 11 = .ok (.iload_n 2, 1) := by decide +kernel
theorem dX8_becomes_12 : decode cX8_becomes 12 = .ok (.iadd, 1) := by decide +kernel
theorem dX8_becomes_13 : decode cX8_becomes 13 = .ok (.iload_n 3, 1) := by decide +kernel
theorem dX8_becomes_14 : decode cX8_becomes 14 = .ok (.iastore, 1) := by decide +kernel
theorem dX8_becomes_15 : decode cX8_becomes 15 = .ok (.return_, 1) := by decide +kernel
theorem dX8_routeOf_0 : decode cX8_routeOf 0 = .ok (.aload_n 0, 1) := by decide +kernel
theorem dX8_routeOf_1 : decode cX8_routeOf 1 = .ok (.getfield 7, 3) := by decide +kernel
theorem dX8_routeOf_4 : decode cX8_routeOf 4 = .ok (.iconst 4, 1) := by decide +kernel
theorem dX8_routeOf_5 : decode cX8_routeOf 5 = .ok (.iconst 4, 1) := by decide +kernel
theorem dX8_routeOf_6 : decode cX8_routeOf 6 = .ok (.iload_n 1, 1) := by decide +kernel
theorem dX8_routeOf_7 : decode cX8_routeOf 7 = .ok (.imul, 1) := by decide +kernel
theorem dX8_routeOf_8 : decode cX8_routeOf 8 = .ok (.iadd, 1) := by decide +kernel
theorem dX8_routeOf_9 : decode cX8_routeOf 9 = .ok (.iload_n 2, 1) := by decide +kernel
theorem dX8_routeOf_10 : decode cX8_routeOf 10 = .ok (.iadd, 1) := by decide +kernel
theorem dX8_routeOf_11 : decode cX8_routeOf 11 = .ok (.iaload, 1) := by decide +kernel
theorem dX8_routeOf_12 : decode cX8_routeOf 12 = .ok (.ireturn, 1) := by decide +kernel
theorem dX8_route_0 : decode cX8_route 0 = .ok (.iload_n 1, 1) := by decide +kernel
theorem dX8_route_1 : decode cX8_route 1 = .ok (.iconst 0, 1) := by decide +kernel
theorem dX8_route_2 : decode cX8_route 2 = .ok (.aload_n 0, 1) := by decide +kernel
theorem dX8_route_3 : decode cX8_route 3 = .ok (.getfield 7, 3) := by decide +kernel
theorem dX8_route_6 : decode cX8_route 6 = .ok (.iconst 0, 1) := by decide +kernel
theorem dX8_route_7 : decode cX8_route 7 = .ok (.iaload, 1) := by decide +kernel
theorem dX8_route_8 : decode cX8_route 8 = .ok (.iconst 1, 1) := by decide +kernel
theorem dX8_route_9 : decode cX8_route 9 = .ok (.isub, 1) := by decide +kernel
theorem dX8_route_10 : decode cX8_route 10 = .ok (.invokestatic 58, 3) := by decide +kernel
theorem dX8_route_13 : decode cX8_route 13 = .ok (.ifCond .eq 20, 3) := by decide +kernel
theorem dX8_route_16 : decode cX8_route 16 = .ok (.aload_n 0, 1) := by decide +kernel
theorem dX8_route_17 : decode cX8_route 17 = .ok (.iload_n 2, 1) := by decide +kernel
theorem dX8_route_18 : decode cX8_route 18 = .ok (.invokevirtual 102, 3) := by decide +kernel
theorem dX8_route_21 : decode cX8_route 21 = .ok (.ifCond .eq 12, 3) := by decide +kernel
theorem dX8_route_24 : decode cX8_route 24 = .ok (.aload_n 0, 1) := by decide +kernel
theorem dX8_route_25 : decode cX8_route 25 = .ok (.iload_n 1, 1) := by decide +kernel
theorem dX8_route_26 : decode cX8_route 26 = .ok (.iload_n 2, 1) := by decide +kernel
theorem dX8_route_27 : decode cX8_route 27 = .ok (.invokevirtual 106, 3) := by decide +kernel
theorem dX8_route_30 : decode cX8_route 30 = .ok (.goto 4, 3) := by decide +kernel
theorem dX8_route_33 : decode cX8_route 33 = .ok (.iconst (-1), 1) := by decide +kernel
theorem dX8_route_34 : decode cX8_route 34 = .ok (.ireturn, 1) := by decide +kernel
theorem dX8_wayIn_0 : decode cX8_wayIn 0 = .ok (.aload_n 0, 1) := by decide +kernel
theorem dX8_wayIn_1 : decode cX8_wayIn 1 = .ok (.aload_n 0, 1) := by decide +kernel
theorem dX8_wayIn_2 : decode cX8_wayIn 2 = .ok (.iload_n 1, 1) := by decide +kernel
theorem dX8_wayIn_3 : decode cX8_wayIn 3 = .ok (.iconst 0, 1) := by decide +kernel
theorem dX8_wayIn_4 : decode cX8_wayIn 4 = .ok (.invokevirtual 110, 3) := by decide +kernel
theorem dX8_wayIn_7 : decode cX8_wayIn 7 = .ok (.iload_n 2, 1) := by decide +kernel
theorem dX8_wayIn_8 : decode cX8_wayIn 8 = .ok (.invokevirtual 106, 3) := by decide +kernel
theorem dX8_wayIn_11 : decode cX8_wayIn 11 = .ok (.ireturn, 1) := by decide +kernel
theorem dX8_wayOut_0 : decode cX8_wayOut 0 = .ok (.aload_n 0, 1) := by decide +kernel
theorem dX8_wayOut_1 : decode cX8_wayOut 1 = .ok (.aload_n 0, 1) := by decide +kernel
theorem dX8_wayOut_2 : decode cX8_wayOut 2 = .ok (.iload_n 1, 1) := by decide +kernel
theorem dX8_wayOut_3 : decode cX8_wayOut 3 = .ok (.iconst 1, 1) := by decide +kernel
theorem dX8_wayOut_4 : decode cX8_wayOut 4 = .ok (.invokevirtual 110, 3) := by decide +kernel
theorem dX8_wayOut_7 : decode cX8_wayOut 7 = .ok (.iload_n 2, 1) := by decide +kernel
theorem dX8_wayOut_8 : decode cX8_wayOut 8 = .ok (.invokevirtual 106, 3) := by decide +kernel
theorem dX8_wayOut_11 : decode cX8_wayOut 11 = .ok (.ireturn, 1) := by decide +kernel
theorem dX8_doesFit_0 : decode cX8_doesFit 0 = .ok (.aload_n 0, 1) := by decide +kernel
theorem dX8_doesFit_1 : decode cX8_doesFit 1 = .ok (.iload_n 1, 1) := by decide +kernel
theorem dX8_doesFit_2 : decode cX8_doesFit 2 = .ok (.iload_n 2, 1) := by decide +kernel
theorem dX8_doesFit_3 : decode cX8_doesFit 3 = .ok (.invokevirtual 113, 3) := by decide +kernel
theorem dX8_doesFit_6 : decode cX8_doesFit 6 = .ok (.bipush (-4), 2) := by decide +kernel
theorem dX8_doesFit_8 : decode cX8_doesFit 8 = .ok (.if_icmp .eq 18, 3) := by decide +kernel
theorem dX8_doesFit_11 : decode cX8_doesFit 11 = .ok (.aload_n 0, 1) := by decide +kernel
theorem dX8_doesFit_12 : decode cX8_doesFit 12 = .ok (.iload_n 1, 1) := by decide +kernel
theorem dX8_doesFit_13 : decode cX8_doesFit 13 = .ok (.iload_n 2, 1) := by decide +kernel
theorem dX8_doesFit_14 : decode cX8_doesFit 14 = .ok (.invokevirtual 116, 3) := by decide +kernel
theorem dX8_doesFit_17 : decode cX8_doesFit 17 = .ok (.bipush (-4), 2) := by decide +kernel
theorem dX8_doesFit_19 : decode cX8_doesFit 19 = .ok (.if_icmp .eq 7, 3) := by decide +kernel
theorem dX8_doesFit_22 : decode cX8_doesFit 22 = .ok (.iconst 1, 1) := by decide +kernel
theorem dX8_doesFit_23 : decode cX8_doesFit 23 = .ok (.goto 4, 3) := by decide +kernel
theorem dX8_doesFit_26 : decode cX8_doesFit 26 = .ok (.iconst 0, 1) := by decide +kernel
theorem dX8_doesFit_27 : decode cX8_doesFit 27 = .ok (.ireturn, 1) := by decide +kernel
theorem dX8_meet_0 : decode cX8_meet 0 = .ok (.iload_n 0, 1) := by decide +kernel
theorem dX8_meet_1 : decode cX8_meet 1 = .ok (.iload_n 1, 1) := by decide +kernel
theorem dX8_meet_2 : decode cX8_meet 2 = .ok (.isub, 1) := by decide +kernel
theorem dX8_meet_3 : decode cX8_meet 3 = .ok (.iconst 2, 1) := by decide +kernel
theorem dX8_meet_4 : decode cX8_meet 4 = .ok (.if_icmp .ge 14, 3) := by decide +kernel
theorem dX8_meet_7 : decode cX8_meet 7 = .ok (.iload_n 1, 1) := by decide +kernel
theorem dX8_meet_8 : decode cX8_meet 8 = .ok (.iload_n 0, 1) := by decide +kernel
theorem dX8_meet_9 : decode cX8_meet 9 = .ok (.isub, 1) := by decide +kernel
theorem dX8_meet_10 : decode cX8_meet 10 = .ok (.iconst 2, 1) := by decide +kernel
theorem dX8_meet_11 : decode cX8_meet 11 = .ok (.if_icmp .ge 7, 3) := by decide +kernel
theorem dX8_meet_14 : decode cX8_meet 14 = .ok (.iconst 1, 1) := by decide +kernel
theorem dX8_meet_15 : decode cX8_meet 15 = .ok (.goto 4, 3) := by decide +kernel
theorem dX8_meet_18 : decode cX8_meet 18 = .ok (.iconst 0, 1) := by decide +kernel
theorem dX8_meet_19 : decode cX8_meet 19 = .ok (.ireturn, 1) := by decide +kernel
theorem dX8_clashOf_0 : decode cX8_clashOf 0 = .ok (.iload_n 2, 1) := by decide +kernel
theorem dX8_clashOf_1 : decode cX8_clashOf 1 = .ok (.iload 4, 2) := by decide +kernel
theorem dX8_clashOf_3 : decode cX8_clashOf 3 = .ok (.if_icmp .ne 15, 3) := by decide +kernel
theorem dX8_clashOf_6 : decode cX8_clashOf 6 = .ok (.aload_n 0, 1) := by decide +kernel
theorem dX8_clashOf_7 : decode cX8_clashOf 7 = .ok (.iload_n 1, 1) := by decide +kernel
theorem dX8_clashOf_8 : decode cX8_clashOf 8 = .ok (.iconst 5, 1) := by decide +kernel
theorem dX8_clashOf_9 : decode cX8_clashOf 9 = .ok (.invokevirtual 110, 3) := by decide +kernel
theorem dX8_clashOf_12 : decode cX8_clashOf 12 = .ok (.iload_n 3, 1) := by decide +kernel
theorem dX8_clashOf_13 : decode cX8_clashOf 13 = .ok (.if_icmp .ne 5, 3) := by decide +kernel
theorem dX8_clashOf_16 : decode cX8_clashOf 16 = .ok (.iconst 0, 1) := by decide +kernel
theorem dX8_clashOf_17 : decode cX8_clashOf 17 = .ok (.ireturn, 1) := by decide +kernel
theorem dX8_clashOf_18 : decode cX8_clashOf 18 = .ok (.aload_n 0, 1) := by decide +kernel
theorem dX8_clashOf_19 : decode cX8_clashOf 19 = .ok (.getfield 7, 3) := by decide +kernel
theorem dX8_clashOf_22 : decode cX8_clashOf 22 = .ok (.iconst 3, 1) := by decide +kernel
theorem dX8_clashOf_23 : decode cX8_clashOf 23 = .ok (.iaload, 1) := by decide +kernel
theorem dX8_clashOf_24 : decode cX8_clashOf 24 = .ok (.iconst 1, 1) := by decide +kernel
theorem dX8_clashOf_25 : decode cX8_clashOf 25 = .ok (.if_icmp .ge 7, 3) := by decide +kernel
theorem dX8_clashOf_28 : decode cX8_clashOf 28 = .ok (.iconst 1, 1) := by decide +kernel
theorem dX8_clashOf_29 : decode cX8_clashOf 29 = .ok (.goto 9, 3) := by decide +kernel
theorem dX8_clashOf_32 : decode cX8_clashOf 32 = .ok (.aload_n 0, 1) := by decide +kernel
theorem dX8_clashOf_33 : decode cX8_clashOf 33 = .ok (.getfield 7, 3) := by decide +kernel
theorem dX8_clashOf_36 : decode cX8_clashOf 36 = .ok (.iconst 3, 1) := by decide +kernel
theorem dX8_clashOf_37 : decode cX8_clashOf 37 = .ok (.iaload, 1) := by decide +kernel
theorem dX8_clashOf_38 : decode cX8_clashOf 38 = .ok (.istore 5, 2) := by decide +kernel
theorem dX8_clashOf_40 : decode cX8_clashOf 40 = .ok (.aload_n 0, 1) := by decide +kernel
theorem dX8_clashOf_41 : decode cX8_clashOf 41 = .ok (.iload_n 3, 1) := by decide +kernel
theorem dX8_clashOf_42 : decode cX8_clashOf 42 = .ok (.iconst 2, 1) := by decide +kernel
theorem dX8_clashOf_43 : decode cX8_clashOf 43 = .ok (.invokevirtual 110, 3) := by decide +kernel
theorem dX8_clashOf_46 : decode cX8_clashOf 46 = .ok (.aload_n 0, 1) := by decide +kernel
theorem dX8_clashOf_47 : decode cX8_clashOf 47 = .ok (.iload_n 1, 1) := by decide +kernel
theorem dX8_clashOf_48 : decode cX8_clashOf 48 = .ok (.iconst 3, 1) := by decide +kernel
theorem dX8_clashOf_49 : decode cX8_clashOf 49 = .ok (.invokevirtual 110, 3) := by decide +kernel
theorem dX8_clashOf_52 : decode cX8_clashOf 52 = .ok (.iload 5, 2) := by decide +kernel
theorem dX8_clashOf_54 : decode cX8_clashOf 54 = .ok (.iadd, 1) := by decide +kernel
theorem dX8_clashOf_55 : decode cX8_clashOf 55 = .ok (.if_icmp .ge 21, 3) := by decide +kernel
theorem dX8_clashOf_58 : decode cX8_clashOf 58 = .ok (.aload_n 0, 1) := by decide +kernel
theorem dX8_clashOf_59 : decode cX8_clashOf 59 = .ok (.iload_n 1, 1) := by decide +kernel
theorem dX8_clashOf_60 : decode cX8_clashOf 60 = .ok (.iconst 2, 1) := by decide +kernel
theorem dX8_clashOf_61 : decode cX8_clashOf 61 = .ok (.invokevirtual 110, 3) := by decide +kernel
theorem dX8_clashOf_64 : decode cX8_clashOf 64 = .ok (.aload_n 0, 1) := by decide +kernel
theorem dX8_clashOf_65 : decode cX8_clashOf 65 = .ok (.iload_n 3, 1) := by decide +kernel
theorem dX8_clashOf_66 : decode cX8_clashOf 66 = .ok (.iconst 3, 1) := by decide +kernel
theorem dX8_clashOf_67 : decode cX8_clashOf 67 = .ok (.invokevirtual 110, 3) := by decide +kernel
theorem dX8_clashOf_70 : decode cX8_clashOf 70 = .ok (.iload 5, 2) := by decide +kernel
theorem dX8_clashOf_72 : decode cX8_clashOf 72 = .ok (.iadd, 1) := by decide +kernel
theorem dX8_clashOf_73 : decode cX8_clashOf 73 = .ok (.if_icmp .lt 7, 3) := by decide +kernel
theorem dX8_clashOf_76 : decode cX8_clashOf 76 = .ok (.iconst 1, 1) := by decide +kernel
theorem dX8_clashOf_77 : decode cX8_clashOf 77 = .ok (.goto 4, 3) := by decide +kernel
theorem dX8_clashOf_80 : decode cX8_clashOf 80 = .ok (.iconst 0, 1) := by decide +kernel
theorem dX8_clashOf_81 : decode cX8_clashOf 81 = .ok (.istore 6, 2) := by decide +kernel
theorem dX8_clashOf_83 : decode cX8_clashOf 83 = .ok (.aload_n 0, 1) := by decide +kernel
theorem dX8_clashOf_84 : decode cX8_clashOf 84 = .ok (.iload_n 1, 1) := by decide +kernel
theorem dX8_clashOf_85 : decode cX8_clashOf 85 = .ok (.iconst 2, 1) := by decide +kernel
theorem dX8_clashOf_86 : decode cX8_clashOf 86 = .ok (.invokevirtual 110, 3) := by decide +kernel
theorem dX8_clashOf_89 : decode cX8_clashOf 89 = .ok (.iconst 1, 1) := by decide +kernel
theorem dX8_clashOf_90 : decode cX8_clashOf 90 = .ok (.isub, 1) := by decide +kernel
theorem dX8_clashOf_91 : decode cX8_clashOf 91 = .ok (.istore 7, 2) := by decide +kernel
theorem dX8_clashOf_93 : decode cX8_clashOf 93 = .ok (.aload_n 0, 1) := by decide +kernel
theorem dX8_clashOf_94 : decode cX8_clashOf 94 = .ok (.iload_n 1, 1) := by decide +kernel
theorem dX8_clashOf_95 : decode cX8_clashOf 95 = .ok (.iconst 3, 1) := by decide +kernel
theorem dX8_clashOf_96 : decode cX8_clashOf 96 = .ok (.invokevirtual 110, 3) := by decide +kernel
theorem dX8_clashOf_99 : decode cX8_clashOf 99 = .ok (.istore 8, 2) := by decide +kernel
theorem dX8_clashOf_101 : decode cX8_clashOf 101 = .ok (.aload_n 0, 1) := by decide +kernel
theorem dX8_clashOf_102 : decode cX8_clashOf 102 = .ok (.iload_n 3, 1) := by decide +kernel
theorem dX8_clashOf_103 : decode cX8_clashOf 103 = .ok (.iconst 2, 1) := by decide +kernel
theorem dX8_clashOf_104 : decode cX8_clashOf 104 = .ok (.invokevirtual 110, 3) := by decide +kernel
theorem dX8_clashOf_107 : decode cX8_clashOf 107 = .ok (.iconst 1, 1) := by decide +kernel
theorem dX8_clashOf_108 : decode cX8_clashOf 108 = .ok (.isub, 1) := by decide +kernel
theorem dX8_clashOf_109 : decode cX8_clashOf 109 = .ok (.istore 9, 2) := by decide +kernel
theorem dX8_clashOf_111 : decode cX8_clashOf 111 = .ok (.aload_n 0, 1) := by decide +kernel
theorem dX8_clashOf_112 : decode cX8_clashOf 112 = .ok (.iload_n 3, 1) := by decide +kernel
theorem dX8_clashOf_113 : decode cX8_clashOf 113 = .ok (.iconst 3, 1) := by decide +kernel
theorem dX8_clashOf_114 : decode cX8_clashOf 114 = .ok (.invokevirtual 110, 3) := by decide +kernel
theorem dX8_clashOf_117 : decode cX8_clashOf 117 = .ok (.istore 10, 2) := by decide +kernel
theorem dX8_clashOf_119 : decode cX8_clashOf 119 = .ok (.iload 7, 2) := by decide +kernel
theorem dX8_clashOf_121 : decode cX8_clashOf 121 = .ok (.iload 9, 2) := by decide +kernel
theorem dX8_clashOf_123 : decode cX8_clashOf 123 = .ok (.invokestatic 119, 3) := by decide +kernel
theorem dX8_clashOf_126 : decode cX8_clashOf 126 = .ok (.ifCond .eq 24, 3) := by decide +kernel
theorem dX8_clashOf_129 : decode cX8_clashOf 129 = .ok (.aload_n 0, 1) := by decide +kernel
theorem dX8_clashOf_130 : decode cX8_clashOf 130 = .ok (.iload_n 1, 1) := by decide +kernel
theorem dX8_clashOf_131 : decode cX8_clashOf 131 = .ok (.iload_n 2, 1) := by decide +kernel
theorem dX8_clashOf_132 : decode cX8_clashOf 132 = .ok (.invokevirtual 113, 3) := by decide +kernel
theorem dX8_clashOf_135 : decode cX8_clashOf 135 = .ok (.aload_n 0, 1) := by decide +kernel
theorem dX8_clashOf_136 : decode cX8_clashOf 136 = .ok (.iload_n 3, 1) := by decide +kernel
theorem dX8_clashOf_137 : decode cX8_clashOf 137 = .ok (.iload 4, 2) := by decide +kernel
theorem dX8_clashOf_139 : decode cX8_clashOf 139 = .ok (.invokevirtual 113, 3) := by decide +kernel
theorem dX8_clashOf_142 : decode cX8_clashOf 142 = .ok (.iand, 1) := by decide +kernel
theorem dX8_clashOf_143 : decode cX8_clashOf 143 = .ok (.ifCond .eq 7, 3) := by decide +kernel
theorem dX8_clashOf_146 : decode cX8_clashOf 146 = .ok (.iconst 1, 1) := by decide +kernel
theorem dX8_clashOf_147 : decode cX8_clashOf 147 = .ok (.goto 4, 3) := by decide +kernel
theorem dX8_clashOf_150 : decode cX8_clashOf 150 = .ok (.iconst 0, 1) := by decide +kernel
theorem dX8_clashOf_151 : decode cX8_clashOf 151 = .ok (.istore 11, 2) := by decide +kernel
theorem dX8_clashOf_153 : decode cX8_clashOf 153 = .ok (.iload 11, 2) := by decide +kernel
theorem dX8_clashOf_155 : decode cX8_clashOf 155 = .ok (.ifCond .ne 30, 3) := by decide +kernel
theorem dX8_clashOf_158 : decode cX8_clashOf 158 = .ok (.iload 7, 2) := by decide +kernel
theorem dX8_clashOf_160 : decode cX8_clashOf 160 = .ok (.iload 10, 2) := by decide +kernel
theorem dX8_clashOf_162 : decode cX8_clashOf 162 = .ok (.invokestatic 119, 3) := by decide +kernel
theorem dX8_clashOf_165 : decode cX8_clashOf 165 = .ok (.ifCond .eq 24, 3) := by decide +kernel
theorem dX8_clashOf_168 : decode cX8_clashOf 168 = .ok (.aload_n 0, 1) := by decide +kernel
theorem dX8_clashOf_169 : decode cX8_clashOf 169 = .ok (.iload_n 1, 1) := by decide +kernel
theorem dX8_clashOf_170 : decode cX8_clashOf 170 = .ok (.iload_n 2, 1) := by decide +kernel
theorem dX8_clashOf_171 : decode cX8_clashOf 171 = .ok (.invokevirtual 113, 3) := by decide +kernel
theorem dX8_clashOf_174 : decode cX8_clashOf 174 = .ok (.aload_n 0, 1) := by decide +kernel
theorem dX8_clashOf_175 : decode cX8_clashOf 175 = .ok (.iload_n 3, 1) := by decide +kernel
theorem dX8_clashOf_176 : decode cX8_clashOf 176 = .ok (.iload 4, 2) := by decide +kernel
theorem dX8_clashOf_178 : decode cX8_clashOf 178 = .ok (.invokevirtual 116, 3) := by decide +kernel
theorem dX8_clashOf_181 : decode cX8_clashOf 181 = .ok (.iand, 1) := by decide +kernel
theorem dX8_clashOf_182 : decode cX8_clashOf 182 = .ok (.ifCond .eq 7, 3) := by decide +kernel
theorem dX8_clashOf_185 : decode cX8_clashOf 185 = .ok (.iconst 1, 1) := by decide +kernel
theorem dX8_clashOf_186 : decode cX8_clashOf 186 = .ok (.goto 4, 3) := by decide +kernel
theorem dX8_clashOf_189 : decode cX8_clashOf 189 = .ok (.iconst 0, 1) := by decide +kernel
theorem dX8_clashOf_190 : decode cX8_clashOf 190 = .ok (.istore 11, 2) := by decide +kernel
theorem dX8_clashOf_192 : decode cX8_clashOf 192 = .ok (.iload 11, 2) := by decide +kernel
theorem dX8_clashOf_194 : decode cX8_clashOf 194 = .ok (.ifCond .ne 30, 3) := by decide +kernel
theorem dX8_clashOf_197 : decode cX8_clashOf 197 = .ok (.iload 8, 2) := by decide +kernel
theorem dX8_clashOf_199 : decode cX8_clashOf 199 = .ok (.iload 9, 2) := by decide +kernel
theorem dX8_clashOf_201 : decode cX8_clashOf 201 = .ok (.invokestatic 119, 3) := by decide +kernel
theorem dX8_clashOf_204 : decode cX8_clashOf 204 = .ok (.ifCond .eq 24, 3) := by decide +kernel
theorem dX8_clashOf_207 : decode cX8_clashOf 207 = .ok (.aload_n 0, 1) := by decide +kernel
theorem dX8_clashOf_208 : decode cX8_clashOf 208 = .ok (.iload_n 1, 1) := by decide +kernel
theorem dX8_clashOf_209 : decode cX8_clashOf 209 = .ok (.iload_n 2, 1) := by decide +kernel
theorem dX8_clashOf_210 : decode cX8_clashOf 210 = .ok (.invokevirtual 116, 3) := by decide +kernel
theorem dX8_clashOf_213 : decode cX8_clashOf 213 = .ok (.aload_n 0, 1) := by decide +kernel
theorem dX8_clashOf_214 : decode cX8_clashOf 214 = .ok (.iload_n 3, 1) := by decide +kernel
theorem dX8_clashOf_215 : decode cX8_clashOf 215 = .ok (.iload 4, 2) := by decide +kernel
theorem dX8_clashOf_217 : decode cX8_clashOf 217 = .ok (.invokevirtual 113, 3) := by decide +kernel
theorem dX8_clashOf_220 : decode cX8_clashOf 220 = .ok (.iand, 1) := by decide +kernel
theorem dX8_clashOf_221 : decode cX8_clashOf 221 = .ok (.ifCond .eq 7, 3) := by decide +kernel
theorem dX8_clashOf_224 : decode cX8_clashOf 224 = .ok (.iconst 1, 1) := by decide +kernel
theorem dX8_clashOf_225 : decode cX8_clashOf 225 = .ok (.goto 4, 3) := by decide +kernel
theorem dX8_clashOf_228 : decode cX8_clashOf 228 = .ok (.iconst 0, 1) := by decide +kernel
theorem dX8_clashOf_229 : decode cX8_clashOf 229 = .ok (.istore 11, 2) := by decide +kernel
theorem dX8_clashOf_231 : decode cX8_clashOf 231 = .ok (.iload 11, 2) := by decide +kernel
theorem dX8_clashOf_233 : decode cX8_clashOf 233 = .ok (.ifCond .ne 30, 3) := by decide +kernel
theorem dX8_clashOf_236 : decode cX8_clashOf 236 = .ok (.iload 8, 2) := by decide +kernel
theorem dX8_clashOf_238 : decode cX8_clashOf 238 = .ok (.iload 10, 2) := by decide +kernel
theorem dX8_clashOf_240 : decode cX8_clashOf 240 = .ok (.invokestatic 119, 3) := by decide +kernel
theorem dX8_clashOf_243 : decode cX8_clashOf 243 = .ok (.ifCond .eq 24, 3) := by decide +kernel
theorem dX8_clashOf_246 : decode cX8_clashOf 246 = .ok (.aload_n 0, 1) := by decide +kernel
theorem dX8_clashOf_247 : decode cX8_clashOf 247 = .ok (.iload_n 1, 1) := by decide +kernel
theorem dX8_clashOf_248 : decode cX8_clashOf 248 = .ok (.iload_n 2, 1) := by decide +kernel
theorem dX8_clashOf_249 : decode cX8_clashOf 249 = .ok (.invokevirtual 116, 3) := by decide +kernel
theorem dX8_clashOf_252 : decode cX8_clashOf 252 = .ok (.aload_n 0, 1) := by decide +kernel
theorem dX8_clashOf_253 : decode cX8_clashOf 253 = .ok (.iload_n 3, 1) := by decide +kernel
theorem dX8_clashOf_254 : decode cX8_clashOf 254 = .ok (.iload 4, 2) := by decide +kernel
theorem dX8_clashOf_256 : decode cX8_clashOf 256 = .ok (.invokevirtual 116, 3) := by decide +kernel
theorem dX8_clashOf_259 : decode cX8_clashOf 259 = .ok (.iand, 1) := by decide +kernel
theorem dX8_clashOf_260 : decode cX8_clashOf 260 = .ok (.ifCond .eq 7, 3) := by decide +kernel
theorem dX8_clashOf_263 : decode cX8_clashOf 263 = .ok (.iconst 1, 1) := by decide +kernel
theorem dX8_clashOf_264 : decode cX8_clashOf 264 = .ok (.goto 4, 3) := by decide +kernel
theorem dX8_clashOf_267 : decode cX8_clashOf 267 = .ok (.iconst 0, 1) := by decide +kernel
theorem dX8_clashOf_268 : decode cX8_clashOf 268 = .ok (.istore 11, 2) := by decide +kernel
theorem dX8_clashOf_270 : decode cX8_clashOf 270 = .ok (.iload_n 2, 1) := by decide +kernel
theorem dX8_clashOf_271 : decode cX8_clashOf 271 = .ok (.iload 4, 2) := by decide +kernel
theorem dX8_clashOf_273 : decode cX8_clashOf 273 = .ok (.if_icmp .ne 12, 3) := by decide +kernel
theorem dX8_clashOf_276 : decode cX8_clashOf 276 = .ok (.iload 6, 2) := by decide +kernel
theorem dX8_clashOf_278 : decode cX8_clashOf 278 = .ok (.ifCond .ne 7, 3) := by decide +kernel
theorem dX8_clashOf_281 : decode cX8_clashOf 281 = .ok (.iconst 1, 1) := by decide +kernel
theorem dX8_clashOf_282 : decode cX8_clashOf 282 = .ok (.goto 4, 3) := by decide +kernel
theorem dX8_clashOf_285 : decode cX8_clashOf 285 = .ok (.iconst 0, 1) := by decide +kernel
theorem dX8_clashOf_286 : decode cX8_clashOf 286 = .ok (.iload 11, 2) := by decide +kernel
theorem dX8_clashOf_288 : decode cX8_clashOf 288 = .ok (.ifCond .eq 7, 3) := by decide +kernel
theorem dX8_clashOf_291 : decode cX8_clashOf 291 = .ok (.iconst 2, 1) := by decide +kernel
theorem dX8_clashOf_292 : decode cX8_clashOf 292 = .ok (.goto 4, 3) := by decide +kernel
theorem dX8_clashOf_295 : decode cX8_clashOf 295 = .ok (.iconst 0, 1) := by decide +kernel
theorem dX8_clashOf_296 : decode cX8_clashOf 296 = .ok (.iadd, 1) := by decide +kernel
theorem dX8_clashOf_297 : decode cX8_clashOf 297 = .ok (.ireturn, 1) := by decide +kernel
theorem dX8_clashing_0 : decode cX8_clashing 0 = .ok (.iconst 0, 1) := by decide +kernel
theorem dX8_clashing_1 : decode cX8_clashing 1 = .ok (.istore_n 3, 1) := by decide +kernel
theorem dX8_clashing_2 : decode cX8_clashing 2 = .ok (.iload_n 3, 1) := by decide +kernel
theorem dX8_clashing_3 : decode cX8_clashing 3 = .ok (.aload_n 0, 1) := by decide +kernel
theorem dX8_clashing_4 : decode cX8_clashing 4 = .ok (.getfield 7, 3) := by decide +kernel
theorem dX8_clashing_7 : decode cX8_clashing 7 = .ok (.iconst 2, 1) := by decide +kernel
theorem dX8_clashing_8 : decode cX8_clashing 8 = .ok (.iaload, 1) := by decide +kernel
theorem dX8_clashing_9 : decode cX8_clashing 9 = .ok (.if_icmp .ge 45, 3) := by decide +kernel
theorem dX8_clashing_12 : decode cX8_clashing 12 = .ok (.iload_n 3, 1) := by decide +kernel
theorem dX8_clashing_13 : decode cX8_clashing 13 = .ok (.iload_n 1, 1) := by decide +kernel
theorem dX8_clashing_14 : decode cX8_clashing 14 = .ok (.if_icmp .eq 34, 3) := by decide +kernel
theorem dX8_clashing_17 : decode cX8_clashing 17 = .ok (.aload_n 0, 1) := by decide +kernel
theorem dX8_clashing_18 : decode cX8_clashing 18 = .ok (.iload_n 3, 1) := by decide +kernel
theorem dX8_clashing_19 : decode cX8_clashing 19 = .ok (.bipush 6, 2) := by decide +kernel
theorem dX8_clashing_21 : decode cX8_clashing 21 = .ok (.invokevirtual 110, 3) := by decide +kernel
theorem dX8_clashing_24 : decode cX8_clashing 24 = .ok (.bipush (-4), 2) := by decide +kernel
theorem dX8_clashing_26 : decode cX8_clashing 26 = .ok (.if_icmp .eq 22, 3) := by decide +kernel
theorem dX8_clashing_29 : decode cX8_clashing 29 = .ok (.aload_n 0, 1) := by decide +kernel
theorem dX8_clashing_30 : decode cX8_clashing 30 = .ok (.iload_n 1, 1) := by decide +kernel
theorem dX8_clashing_31 : decode cX8_clashing 31 = .ok (.iload_n 2, 1) := by decide +kernel
theorem dX8_clashing_32 : decode cX8_clashing 32 = .ok (.iload_n 3, 1) := by decide +kernel
theorem dX8_clashing_33 : decode cX8_clashing 33 = .ok (.aload_n 0, 1) := by decide +kernel
theorem dX8_clashing_34 : decode cX8_clashing 34 = .ok (.iload_n 3, 1) := by decide +kernel
theorem dX8_clashing_35 : decode cX8_clashing 35 = .ok (.bipush 6, 2) := by decide +kernel
theorem dX8_clashing_37 : decode cX8_clashing 37 = .ok (.invokevirtual 110, 3) := by decide +kernel
theorem dX8_clashing_40 : decode cX8_clashing 40 = .ok (.invokevirtual 122, 3) := by decide +kernel
theorem dX8_clashing_43 : decode cX8_clashing 43 = .ok (.ifCond .le 5, 3) := by decide +kernel
theorem dX8_clashing_46 : decode cX8_clashing 46 = .ok (.iload_n 3, 1) := by decide +kernel
theorem dX8_clashing_47 : decode cX8_clashing 47 = .ok (.ireturn, 1) := by decide +kernel
theorem dX8_clashing_48 : decode cX8_clashing 48 = .ok (.iinc 3 1, 3) := by decide +kernel
theorem dX8_clashing_51 : decode cX8_clashing 51 = .ok (.goto (-49), 3) := by decide +kernel
theorem dX8_clashing_54 : decode cX8_clashing 54 = .ok (.bipush (-4), 2) := by decide +kernel
theorem dX8_clashing_56 : decode cX8_clashing 56 = .ok (.ireturn, 1) := by decide +kernel
theorem dX8_whyNot_0 : decode cX8_whyNot 0 = .ok (.aload_n 0, 1) := by decide +kernel
theorem dX8_whyNot_1 : decode cX8_whyNot 1 = .ok (.iload_n 1, 1) := by decide +kernel
theorem dX8_whyNot_2 : decode cX8_whyNot 2 = .ok (.iload_n 2, 1) := by decide +kernel
theorem dX8_whyNot_3 : decode cX8_whyNot 3 = .ok (.invokevirtual 113, 3) := by decide +kernel
theorem dX8_whyNot_6 : decode cX8_whyNot 6 = .ok (.bipush (-4), 2) := by decide +kernel
theorem dX8_whyNot_8 : decode cX8_whyNot 8 = .ok (.if_icmp .ne 5, 3) := by decide +kernel
theorem dX8_whyNot_11 : decode cX8_whyNot 11 = .ok (.iconst 1, 1) := by decide +kernel
theorem dX8_whyNot_12 : decode cX8_whyNot 12 = .ok (.ireturn, 1) := by decide +kernel
theorem dX8_whyNot_13 : decode cX8_whyNot 13 = .ok (.aload_n 0, 1) := by decide +kernel
theorem dX8_whyNot_14 : decode cX8_whyNot 14 = .ok (.iload_n 1, 1) := by decide +kernel
theorem dX8_whyNot_15 : decode cX8_whyNot 15 = .ok (.iload_n 2, 1) := by decide +kernel
theorem dX8_whyNot_16 : decode cX8_whyNot 16 = .ok (.invokevirtual 116, 3) := by decide +kernel
theorem dX8_whyNot_19 : decode cX8_whyNot 19 = .ok (.bipush (-4), 2) := by decide +kernel
theorem dX8_whyNot_21 : decode cX8_whyNot 21 = .ok (.if_icmp .ne 5, 3) := by decide +kernel
theorem dX8_whyNot_24 : decode cX8_whyNot 24 = .ok (.iconst 2, 1) := by decide +kernel
theorem dX8_whyNot_25 : decode cX8_whyNot 25 = .ok (.ireturn, 1) := by decide +kernel
theorem dX8_whyNot_26 : decode cX8_whyNot 26 = .ok (.aload_n 0, 1) := by decide +kernel
theorem dX8_whyNot_27 : decode cX8_whyNot 27 = .ok (.iload_n 1, 1) := by decide +kernel
theorem dX8_whyNot_28 : decode cX8_whyNot 28 = .ok (.iload_n 2, 1) := by decide +kernel
theorem dX8_whyNot_29 : decode cX8_whyNot 29 = .ok (.invokevirtual 126, 3) := by decide +kernel
theorem dX8_whyNot_32 : decode cX8_whyNot 32 = .ok (.istore_n 3, 1) := by decide +kernel
theorem dX8_whyNot_33 : decode cX8_whyNot 33 = .ok (.iload_n 3, 1) := by decide +kernel
theorem dX8_whyNot_34 : decode cX8_whyNot 34 = .ok (.bipush (-4), 2) := by decide +kernel
theorem dX8_whyNot_36 : decode cX8_whyNot 36 = .ok (.if_icmp .ne 7, 3) := by decide +kernel
theorem dX8_whyNot_39 : decode cX8_whyNot 39 = .ok (.iconst 0, 1) := by decide +kernel
theorem dX8_whyNot_40 : decode cX8_whyNot 40 = .ok (.goto 6, 3) := by decide +kernel
theorem dX8_whyNot_43 : decode cX8_whyNot 43 = .ok (.iconst 3, 1) := by decide +kernel
theorem dX8_whyNot_44 : decode cX8_whyNot 44 = .ok (.iload_n 3, 1) := by decide +kernel
theorem dX8_whyNot_45 : decode cX8_whyNot 45 = .ok (.iadd, 1) := by decide +kernel
theorem dX8_whyNot_46 : decode cX8_whyNot 46 = .ok (.ireturn, 1) := by decide +kernel
theorem dX8_fits_0 : decode cX8_fits 0 = .ok (.iconst 0, 1) := by decide +kernel
theorem dX8_fits_1 : decode cX8_fits 1 = .ok (.istore_n 2, 1) := by decide +kernel
theorem dX8_fits_2 : decode cX8_fits 2 = .ok (.iconst 0, 1) := by decide +kernel
theorem dX8_fits_3 : decode cX8_fits 3 = .ok (.istore_n 3, 1) := by decide +kernel
theorem dX8_fits_4 : decode cX8_fits 4 = .ok (.iload_n 3, 1) := by decide +kernel
theorem dX8_fits_5 : decode cX8_fits 5 = .ok (.aload_n 0, 1) := by decide +kernel
theorem dX8_fits_6 : decode cX8_fits 6 = .ok (.getfield 7, 3) := by decide +kernel
theorem dX8_fits_9 : decode cX8_fits 9 = .ok (.iconst 1, 1) := by decide +kernel
theorem dX8_fits_10 : decode cX8_fits 10 = .ok (.iaload, 1) := by decide +kernel
theorem dX8_fits_11 : decode cX8_fits 11 = .ok (.if_icmp .ge 28, 3) := by decide +kernel
theorem dX8_fits_14 : decode cX8_fits 14 = .ok (.iload_n 2, 1) := by decide +kernel
theorem dX8_fits_15 : decode cX8_fits 15 = .ok (.aload_n 0, 1) := by decide +kernel
theorem dX8_fits_16 : decode cX8_fits 16 = .ok (.iload_n 1, 1) := by decide +kernel
theorem dX8_fits_17 : decode cX8_fits 17 = .ok (.iload_n 3, 1) := by decide +kernel
theorem dX8_fits_18 : decode cX8_fits 18 = .ok (.invokevirtual 129, 3) := by decide +kernel
theorem dX8_fits_21 : decode cX8_fits 21 = .ok (.ifCond .eq 9, 3) := by decide +kernel
theorem dX8_fits_24 : decode cX8_fits 24 = .ok (.iconst 1, 1) := by decide +kernel
theorem dX8_fits_25 : decode cX8_fits 25 = .ok (.iload_n 3, 1) := by decide +kernel
theorem dX8_fits_26 : decode cX8_fits 26 = .ok (.ishl, 1) := by decide +kernel
theorem dX8_fits_27 : decode cX8_fits 27 = .ok (.goto 4, 3) := by decide +kernel
theorem dX8_fits_30 : decode cX8_fits 30 = .ok (.iconst 0, 1) := by decide +kernel
theorem dX8_fits_31 : decode cX8_fits 31 = .ok (.ior, 1) := by decide +kernel
theorem dX8_fits_32 : decode cX8_fits 32 = .ok (.istore_n 2, 1) := by decide +kernel
theorem dX8_fits_33 : decode cX8_fits 33 = .ok (.iinc 3 1, 3) := by decide +kernel
theorem dX8_fits_36 : decode cX8_fits 36 = .ok (.goto (-32), 3) := by decide +kernel
theorem dX8_fits_39 : decode cX8_fits 39 = .ok (.iload_n 2, 1) := by decide +kernel
theorem dX8_fits_40 : decode cX8_fits 40 = .ok (.ireturn, 1) := by decide +kernel
theorem dX8_hardOf_0 : decode cX8_hardOf 0 = .ok (.iconst 0, 1) := by decide +kernel
theorem dX8_hardOf_1 : decode cX8_hardOf 1 = .ok (.istore_n 2, 1) := by decide +kernel
theorem dX8_hardOf_2 : decode cX8_hardOf 2 = .ok (.iconst 0, 1) := by decide +kernel
theorem dX8_hardOf_3 : decode cX8_hardOf 3 = .ok (.istore_n 3, 1) := by decide +kernel
theorem dX8_hardOf_4 : decode cX8_hardOf 4 = .ok (.iload_n 3, 1) := by decide +kernel
theorem dX8_hardOf_5 : decode cX8_hardOf 5 = .ok (.aload_n 0, 1) := by decide +kernel
theorem dX8_hardOf_6 : decode cX8_hardOf 6 = .ok (.getfield 7, 3) := by decide +kernel
theorem dX8_hardOf_9 : decode cX8_hardOf 9 = .ok (.iconst 1, 1) := by decide +kernel
theorem dX8_hardOf_10 : decode cX8_hardOf 10 = .ok (.iaload, 1) := by decide +kernel
theorem dX8_hardOf_11 : decode cX8_hardOf 11 = .ok (.if_icmp .ge 26, 3) := by decide +kernel
theorem dX8_hardOf_14 : decode cX8_hardOf 14 = .ok (.iload_n 2, 1) := by decide +kernel
theorem dX8_hardOf_15 : decode cX8_hardOf 15 = .ok (.aload_n 0, 1) := by decide +kernel
theorem dX8_hardOf_16 : decode cX8_hardOf 16 = .ok (.iload_n 1, 1) := by decide +kernel
theorem dX8_hardOf_17 : decode cX8_hardOf 17 = .ok (.iload_n 3, 1) := by decide +kernel
theorem dX8_hardOf_18 : decode cX8_hardOf 18 = .ok (.invokevirtual 132, 3) := by decide +kernel
theorem dX8_hardOf_21 : decode cX8_hardOf 21 = .ok (.ifCond .ne 7, 3) := by decide +kernel
theorem dX8_hardOf_24 : decode cX8_hardOf 24 = .ok (.iconst 1, 1) := by decide +kernel
theorem dX8_hardOf_25 : decode cX8_hardOf 25 = .ok (.goto 4, 3) := by decide +kernel
theorem dX8_hardOf_28 : decode cX8_hardOf 28 = .ok (.iconst 0, 1) := by decide +kernel
theorem dX8_hardOf_29 : decode cX8_hardOf 29 = .ok (.iadd, 1) := by decide +kernel
theorem dX8_hardOf_30 : decode cX8_hardOf 30 = .ok (.istore_n 2, 1) := by decide +kernel
theorem dX8_hardOf_31 : decode cX8_hardOf 31 = .ok (.iinc 3 1, 3) := by decide +kernel
theorem dX8_hardOf_34 : decode cX8_hardOf 34 = .ok (.goto (-30), 3) := by decide +kernel
theorem dX8_hardOf_37 : decode cX8_hardOf 37 = .ok (.iload_n 2, 1) := by decide +kernel
theorem dX8_hardOf_38 : decode cX8_hardOf 38 = .ok (.ireturn, 1) := by decide +kernel
theorem dX8_train_0 : decode cX8_train 0 = .ok (.aload_n 0, 1) := by decide +kernel
theorem dX8_train_1 : decode cX8_train 1 = .ok (.iload_n 1, 1) := by decide +kernel
theorem dX8_train_2 : decode cX8_train 2 = .ok (.invokevirtual 135, 3) := by decide +kernel
theorem dX8_train_5 : decode cX8_train 5 = .ok (.ifCond .eq 13, 3) := by decide +kernel
theorem dX8_train_8 : decode cX8_train 8 = .ok (.iload_n 2, 1) := by decide +kernel
theorem dX8_train_9 : decode cX8_train 9 = .ok (.iconst 0, 1) := by decide +kernel
theorem dX8_train_10 : decode cX8_train 10 = .ok (.bipush 8, 2) := by decide +kernel
theorem dX8_train_12 : decode cX8_train 12 = .ok (.invokestatic 58, 3) := by decide +kernel
theorem dX8_train_15 : decode cX8_train 15 = .ok (.ifCond .ne 5, 3) := by decide +kernel
theorem dX8_train_18 : decode cX8_train 18 = .ok (.iconst (-1), 1) := by decide +kernel
theorem dX8_train_19 : decode cX8_train 19 = .ok (.ireturn, 1) := by decide +kernel
theorem dX8_train_20 : decode cX8_train 20 = .ok (.iload_n 2, 1) := by decide +kernel
theorem dX8_train_21 : decode cX8_train 21 = .ok (.bipush 7, 2) := by decide +kernel
theorem dX8_train_23 : decode cX8_train 23 = .ok (.if_icmp .ge 10, 3) := by decide +kernel
theorem dX8_train_26 : decode cX8_train 26 = .ok (.aload_n 0, 1) := by decide +kernel
theorem dX8_train_27 : decode cX8_train 27 = .ok (.iload_n 1, 1) := by decide +kernel
theorem dX8_train_28 : decode cX8_train 28 = .ok (.iload_n 2, 1) := by decide +kernel
theorem dX8_train_29 : decode cX8_train 29 = .ok (.invokevirtual 110, 3) := by decide +kernel
theorem dX8_train_32 : decode cX8_train 32 = .ok (.ireturn, 1) := by decide +kernel
theorem dX8_train_33 : decode cX8_train 33 = .ok (.iload_n 2, 1) := by decide +kernel
theorem dX8_train_34 : decode cX8_train 34 = .ok (.bipush 7, 2) := by decide +kernel
theorem dX8_train_36 : decode cX8_train 36 = .ok (.if_icmp .ne 11, 3) := by decide +kernel
theorem dX8_train_39 : decode cX8_train 39 = .ok (.aload_n 0, 1) := by decide +kernel
theorem dX8_train_40 : decode cX8_train 40 = .ok (.iload_n 1, 1) := by decide +kernel
theorem dX8_train_41 : decode cX8_train 41 = .ok (.invokevirtual 138, 3) := by decide +kernel
theorem dX8_train_44 : decode cX8_train 44 = .ok (.goto 8, 3) := by decide +kernel
theorem dX8_train_47 : decode cX8_train 47 = .ok (.aload_n 0, 1) := by decide +kernel
theorem dX8_train_48 : decode cX8_train 48 = .ok (.iload_n 1, 1) := by decide +kernel
theorem dX8_train_49 : decode cX8_train 49 = .ok (.invokevirtual 142, 3) := by decide +kernel
theorem dX8_train_52 : decode cX8_train 52 = .ok (.ireturn, 1) := by decide +kernel
theorem dX8_placed_0 : decode cX8_placed 0 = .ok (.iconst 0, 1) := by decide +kernel
theorem dX8_placed_1 : decode cX8_placed 1 = .ok (.istore_n 1, 1) := by decide +kernel
theorem dX8_placed_2 : decode cX8_placed 2 = .ok (.iconst 0, 1) := by decide +kernel
theorem dX8_placed_3 : decode cX8_placed 3 = .ok (.istore_n 2, 1) := by decide +kernel
theorem dX8_placed_4 : decode cX8_placed 4 = .ok (.iload_n 2, 1) := by decide +kernel
theorem dX8_placed_5 : decode cX8_placed 5 = .ok (.aload_n 0, 1) := by decide +kernel
theorem dX8_placed_6 : decode cX8_placed 6 = .ok (.getfield 7, 3) := by decide +kernel
theorem dX8_placed_9 : decode cX8_placed 9 = .ok (.iconst 2, 1) := by decide +kernel
theorem dX8_placed_10 : decode cX8_placed 10 = .ok (.iaload, 1) := by decide +kernel
theorem dX8_placed_11 : decode cX8_placed 11 = .ok (.if_icmp .ge 29, 3) := by decide +kernel
theorem dX8_placed_14 : decode cX8_placed 14 = .ok (.iload_n 1, 1) := by decide +kernel
theorem dX8_placed_15 : decode cX8_placed 15 = .ok (.aload_n 0, 1) := by decide +kernel
theorem dX8_placed_16 : decode cX8_placed 16 = .ok (.iload_n 2, 1) := by decide +kernel
theorem dX8_placed_17 : decode cX8_placed 17 = .ok (.bipush 6, 2) := by decide +kernel
theorem dX8_placed_19 : decode cX8_placed 19 = .ok (.invokevirtual 110, 3) := by decide +kernel
theorem dX8_placed_22 : decode cX8_placed 22 = .ok (.bipush (-4), 2) := by decide +kernel
theorem dX8_placed_24 : decode cX8_placed 24 = .ok (.if_icmp .ne 7, 3) := by decide +kernel
theorem dX8_placed_27 : decode cX8_placed 27 = .ok (.iconst 0, 1) := by decide +kernel
theorem dX8_placed_28 : decode cX8_placed 28 = .ok (.goto 4, 3) := by decide +kernel
theorem dX8_placed_31 : decode cX8_placed 31 = .ok (.iconst 1, 1) := by decide +kernel
theorem dX8_placed_32 : decode cX8_placed 32 = .ok (.iadd, 1) := by decide +kernel
theorem dX8_placed_33 : decode cX8_placed 33 = .ok (.istore_n 1, 1) := by decide +kernel
theorem dX8_placed_34 : decode cX8_placed 34 = .ok (.iinc 2 1, 3) := by decide +kernel
theorem dX8_placed_37 : decode cX8_placed 37 = .ok (.goto (-33), 3) := by decide +kernel
theorem dX8_placed_40 : decode cX8_placed 40 = .ok (.iload_n 1, 1) := by decide +kernel
theorem dX8_placed_41 : decode cX8_placed 41 = .ok (.ireturn, 1) := by decide +kernel
theorem dX8_give_0 : decode cX8_give 0 = .ok (.aload_n 0, 1) := by decide +kernel
theorem dX8_give_1 : decode cX8_give 1 = .ok (.iload_n 1, 1) := by decide +kernel
theorem dX8_give_2 : decode cX8_give 2 = .ok (.invokevirtual 135, 3) := by decide +kernel
theorem dX8_give_5 : decode cX8_give 5 = .ok (.ifCond .eq 11, 3) := by decide +kernel
theorem dX8_give_8 : decode cX8_give 8 = .ok (.aload_n 0, 1) := by decide +kernel
theorem dX8_give_9 : decode cX8_give 9 = .ok (.iload_n 2, 1) := by decide +kernel
theorem dX8_give_10 : decode cX8_give 10 = .ok (.invokevirtual 102, 3) := by decide +kernel
theorem dX8_give_13 : decode cX8_give 13 = .ok (.ifCond .ne 5, 3) := by decide +kernel
theorem dX8_give_16 : decode cX8_give 16 = .ok (.iconst (-1), 1) := by decide +kernel
theorem dX8_give_17 : decode cX8_give 17 = .ok (.ireturn, 1) := by decide +kernel
theorem dX8_give_18 : decode cX8_give 18 = .ok (.aload_n 0, 1) := by decide +kernel
theorem dX8_give_19 : decode cX8_give 19 = .ok (.iload_n 1, 1) := by decide +kernel
theorem dX8_give_20 : decode cX8_give 20 = .ok (.bipush 6, 2) := by decide +kernel
theorem dX8_give_22 : decode cX8_give 22 = .ok (.invokevirtual 110, 3) := by decide +kernel
theorem dX8_give_25 : decode cX8_give 25 = .ok (.bipush (-4), 2) := by decide +kernel
theorem dX8_give_27 : decode cX8_give 27 = .ok (.if_icmp .ne 12, 3) := by decide +kernel
theorem dX8_give_30 : decode cX8_give 30 = .ok (.aload_n 0, 1) := by decide +kernel
theorem dX8_give_31 : decode cX8_give 31 = .ok (.iload_n 1, 1) := by decide +kernel
theorem dX8_give_32 : decode cX8_give 32 = .ok (.iload_n 2, 1) := by decide +kernel
theorem dX8_give_33 : decode cX8_give 33 = .ok (.invokevirtual 132, 3) := by decide +kernel
theorem dX8_give_36 : decode cX8_give 36 = .ok (.ifCond .eq 6, 3) := by decide +kernel
theorem dX8_give_39 : decode cX8_give 39 = .ok (.bipush (-2), 2) := by decide +kernel
theorem dX8_give_41 : decode cX8_give 41 = .ok (.ireturn, 1) := by decide +kernel
theorem dX8_give_42 : decode cX8_give 42 = .ok (.aload_n 0, 1) := by decide +kernel
theorem dX8_give_43 : decode cX8_give 43 = .ok (.invokevirtual 145, 3) := by decide +kernel
theorem dX8_give_46 : decode cX8_give 46 = .ok (.aload_n 0, 1) := by decide +kernel
theorem dX8_give_47 : decode cX8_give 47 = .ok (.iload_n 1, 1) := by decide +kernel
theorem dX8_give_48 : decode cX8_give 48 = .ok (.bipush 6, 2) := by decide +kernel
theorem dX8_give_50 : decode cX8_give 50 = .ok (.iload_n 2, 1) := by decide +kernel
theorem dX8_give_51 : decode cX8_give 51 = .ok (.invokevirtual 148, 3) := by decide +kernel
theorem dX8_give_54 : decode cX8_give 54 = .ok (.aload_n 0, 1) := by decide +kernel
theorem dX8_give_55 : decode cX8_give 55 = .ok (.invokevirtual 152, 3) := by decide +kernel
theorem dX8_give_58 : decode cX8_give 58 = .ok (.ireturn, 1) := by decide +kernel
theorem dX8_take_0 : decode cX8_take 0 = .ok (.aload_n 0, 1) := by decide +kernel
theorem dX8_take_1 : decode cX8_take 1 = .ok (.iload_n 1, 1) := by decide +kernel
theorem dX8_take_2 : decode cX8_take 2 = .ok (.invokevirtual 135, 3) := by decide +kernel
theorem dX8_take_5 : decode cX8_take 5 = .ok (.ifCond .ne 5, 3) := by decide +kernel
theorem dX8_take_8 : decode cX8_take 8 = .ok (.iconst (-1), 1) := by decide +kernel
theorem dX8_take_9 : decode cX8_take 9 = .ok (.ireturn, 1) := by decide +kernel
theorem dX8_take_10 : decode cX8_take 10 = .ok (.aload_n 0, 1) := by decide +kernel
theorem dX8_take_11 : decode cX8_take 11 = .ok (.iload_n 1, 1) := by decide +kernel
theorem dX8_take_12 : decode cX8_take 12 = .ok (.bipush 6, 2) := by decide +kernel
theorem dX8_take_14 : decode cX8_take 14 = .ok (.invokevirtual 110, 3) := by decide +kernel
theorem dX8_take_17 : decode cX8_take 17 = .ok (.istore_n 2, 1) := by decide +kernel
theorem dX8_take_18 : decode cX8_take 18 = .ok (.iload_n 2, 1) := by decide +kernel
theorem dX8_take_19 : decode cX8_take 19 = .ok (.bipush (-4), 2) := by decide +kernel
theorem dX8_take_21 : decode cX8_take 21 = .ok (.if_icmp .ne 6, 3) := by decide +kernel
theorem dX8_take_24 : decode cX8_take 24 = .ok (.bipush (-2), 2) := by decide +kernel
theorem dX8_take_26 : decode cX8_take 26 = .ok (.ireturn, 1) := by decide +kernel
theorem dX8_take_27 : decode cX8_take 27 = .ok (.aload_n 0, 1) := by decide +kernel
theorem dX8_take_28 : decode cX8_take 28 = .ok (.invokevirtual 145, 3) := by decide +kernel
theorem dX8_take_31 : decode cX8_take 31 = .ok (.aload_n 0, 1) := by decide +kernel
theorem dX8_take_32 : decode cX8_take 32 = .ok (.iload_n 1, 1) := by decide +kernel
theorem dX8_take_33 : decode cX8_take 33 = .ok (.bipush 6, 2) := by decide +kernel
theorem dX8_take_35 : decode cX8_take 35 = .ok (.bipush (-4), 2) := by decide +kernel
theorem dX8_take_37 : decode cX8_take 37 = .ok (.invokevirtual 148, 3) := by decide +kernel
theorem dX8_take_40 : decode cX8_take 40 = .ok (.iload_n 2, 1) := by decide +kernel
theorem dX8_take_41 : decode cX8_take 41 = .ok (.ireturn, 1) := by decide +kernel
theorem dX8_why_0 : decode cX8_why 0 = .ok (.aload_n 0, 1) := by decide +kernel
theorem dX8_why_1 : decode cX8_why 1 = .ok (.iload_n 1, 1) := by decide +kernel
theorem dX8_why_2 : decode cX8_why 2 = .ok (.invokevirtual 135, 3) := by decide +kernel
theorem dX8_why_5 : decode cX8_why 5 = .ok (.ifCond .eq 20, 3) := by decide +kernel
theorem dX8_why_8 : decode cX8_why 8 = .ok (.aload_n 0, 1) := by decide +kernel
theorem dX8_why_9 : decode cX8_why 9 = .ok (.iload_n 2, 1) := by decide +kernel
theorem dX8_why_10 : decode cX8_why 10 = .ok (.invokevirtual 102, 3) := by decide +kernel
theorem dX8_why_13 : decode cX8_why 13 = .ok (.ifCond .eq 12, 3) := by decide +kernel
theorem dX8_why_16 : decode cX8_why 16 = .ok (.aload_n 0, 1) := by decide +kernel
theorem dX8_why_17 : decode cX8_why 17 = .ok (.iload_n 1, 1) := by decide +kernel
theorem dX8_why_18 : decode cX8_why 18 = .ok (.iload_n 2, 1) := by decide +kernel
theorem dX8_why_19 : decode cX8_why 19 = .ok (.invokevirtual 132, 3) := by decide +kernel
theorem dX8_why_22 : decode cX8_why 22 = .ok (.goto 4, 3) := by decide +kernel
theorem dX8_why_25 : decode cX8_why 25 = .ok (.iconst (-1), 1) := by decide +kernel
theorem dX8_why_26 : decode cX8_why 26 = .ok (.ireturn, 1) := by decide +kernel
theorem dX8_clash_0 : decode cX8_clash 0 = .ok (.aload_n 0, 1) := by decide +kernel
theorem dX8_clash_1 : decode cX8_clash 1 = .ok (.iload_n 1, 1) := by decide +kernel
theorem dX8_clash_2 : decode cX8_clash 2 = .ok (.invokevirtual 135, 3) := by decide +kernel
theorem dX8_clash_5 : decode cX8_clash 5 = .ok (.ifCond .eq 33, 3) := by decide +kernel
theorem dX8_clash_8 : decode cX8_clash 8 = .ok (.aload_n 0, 1) := by decide +kernel
theorem dX8_clash_9 : decode cX8_clash 9 = .ok (.iload_n 3, 1) := by decide +kernel
theorem dX8_clash_10 : decode cX8_clash 10 = .ok (.invokevirtual 135, 3) := by decide +kernel
theorem dX8_clash_13 : decode cX8_clash 13 = .ok (.ifCond .eq 25, 3) := by decide +kernel
theorem dX8_clash_16 : decode cX8_clash 16 = .ok (.iload_n 1, 1) := by decide +kernel
theorem dX8_clash_17 : decode cX8_clash 17 = .ok (.iload_n 3, 1) := by decide +kernel
theorem dX8_clash_18 : decode cX8_clash 18 = .ok (.if_icmp .eq 20, 3) := by decide +kernel
theorem dX8_clash_21 : decode cX8_clash 21 = .ok (.aload_n 0, 1) := by decide +kernel
theorem dX8_clash_22 : decode cX8_clash 22 = .ok (.iload_n 2, 1) := by decide +kernel
theorem dX8_clash_23 : decode cX8_clash 23 = .ok (.invokevirtual 102, 3) := by decide +kernel
theorem dX8_clash_26 : decode cX8_clash 26 = .ok (.ifCond .eq 12, 3) := by decide +kernel
theorem dX8_clash_29 : decode cX8_clash 29 = .ok (.aload_n 0, 1) := by decide +kernel
theorem dX8_clash_30 : decode cX8_clash 30 = .ok (.iload 4, 2) := by decide +kernel
theorem dX8_clash_32 : decode cX8_clash 32 = .ok (.invokevirtual 102, 3) := by decide +kernel
theorem dX8_clash_35 : decode cX8_clash 35 = .ok (.ifCond .ne 5, 3) := by decide +kernel
theorem dX8_clash_38 : decode cX8_clash 38 = .ok (.iconst (-1), 1) := by decide +kernel
theorem dX8_clash_39 : decode cX8_clash 39 = .ok (.ireturn, 1) := by decide +kernel
theorem dX8_clash_40 : decode cX8_clash 40 = .ok (.aload_n 0, 1) := by decide +kernel
theorem dX8_clash_41 : decode cX8_clash 41 = .ok (.iload_n 1, 1) := by decide +kernel
theorem dX8_clash_42 : decode cX8_clash 42 = .ok (.iload_n 2, 1) := by decide +kernel
theorem dX8_clash_43 : decode cX8_clash 43 = .ok (.invokevirtual 129, 3) := by decide +kernel
theorem dX8_clash_46 : decode cX8_clash 46 = .ok (.ifCond .eq 25, 3) := by decide +kernel
theorem dX8_clash_49 : decode cX8_clash 49 = .ok (.aload_n 0, 1) := by decide +kernel
theorem dX8_clash_50 : decode cX8_clash 50 = .ok (.iload_n 3, 1) := by decide +kernel
theorem dX8_clash_51 : decode cX8_clash 51 = .ok (.iload 4, 2) := by decide +kernel
theorem dX8_clash_53 : decode cX8_clash 53 = .ok (.invokevirtual 129, 3) := by decide +kernel
theorem dX8_clash_56 : decode cX8_clash 56 = .ok (.ifCond .eq 15, 3) := by decide +kernel
theorem dX8_clash_59 : decode cX8_clash 59 = .ok (.aload_n 0, 1) := by decide +kernel
theorem dX8_clash_60 : decode cX8_clash 60 = .ok (.iload_n 1, 1) := by decide +kernel
theorem dX8_clash_61 : decode cX8_clash 61 = .ok (.iload_n 2, 1) := by decide +kernel
theorem dX8_clash_62 : decode cX8_clash 62 = .ok (.iload_n 3, 1) := by decide +kernel
theorem dX8_clash_63 : decode cX8_clash 63 = .ok (.iload 4, 2) := by decide +kernel
theorem dX8_clash_65 : decode cX8_clash 65 = .ok (.invokevirtual 122, 3) := by decide +kernel
theorem dX8_clash_68 : decode cX8_clash 68 = .ok (.goto 4, 3) := by decide +kernel
theorem dX8_clash_71 : decode cX8_clash 71 = .ok (.iconst 0, 1) := by decide +kernel
theorem dX8_clash_72 : decode cX8_clash 72 = .ok (.ireturn, 1) := by decide +kernel
theorem dX8_late_0 : decode cX8_late 0 = .ok (.aload_n 0, 1) := by decide +kernel
theorem dX8_late_1 : decode cX8_late 1 = .ok (.iload_n 1, 1) := by decide +kernel
theorem dX8_late_2 : decode cX8_late 2 = .ok (.invokevirtual 135, 3) := by decide +kernel
theorem dX8_late_5 : decode cX8_late 5 = .ok (.ifCond .eq 18, 3) := by decide +kernel
theorem dX8_late_8 : decode cX8_late 8 = .ok (.iload_n 2, 1) := by decide +kernel
theorem dX8_late_9 : decode cX8_late 9 = .ok (.ifCond .eq 14, 3) := by decide +kernel
theorem dX8_late_12 : decode cX8_late 12 = .ok (.iload_n 2, 1) := by decide +kernel
theorem dX8_late_13 : decode cX8_late 13 = .ok (.bipush (-20), 2) := by decide +kernel
theorem dX8_late_15 : decode cX8_late 15 = .ok (.bipush 60, 2) := by decide +kernel
theorem dX8_late_17 : decode cX8_late 17 = .ok (.invokestatic 58, 3) := by decide +kernel
theorem dX8_late_20 : decode cX8_late 20 = .ok (.ifCond .ne 5, 3) := by decide +kernel
theorem dX8_late_23 : decode cX8_late 23 = .ok (.iconst (-1), 1) := by decide +kernel
theorem dX8_late_24 : decode cX8_late 24 = .ok (.ireturn, 1) := by decide +kernel
theorem dX8_late_25 : decode cX8_late 25 = .ok (.aload_n 0, 1) := by decide +kernel
theorem dX8_late_26 : decode cX8_late 26 = .ok (.iload_n 1, 1) := by decide +kernel
theorem dX8_late_27 : decode cX8_late 27 = .ok (.iconst 2, 1) := by decide +kernel
theorem dX8_late_28 : decode cX8_late 28 = .ok (.invokevirtual 110, 3) := by decide +kernel
theorem dX8_late_31 : decode cX8_late 31 = .ok (.iload_n 2, 1) := by decide +kernel
theorem dX8_late_32 : decode cX8_late 32 = .ok (.iadd, 1) := by decide +kernel
theorem dX8_late_33 : decode cX8_late 33 = .ok (.iconst 1, 1) := by decide +kernel
theorem dX8_late_34 : decode cX8_late 34 = .ok (.if_icmp .lt 16, 3) := by decide +kernel
theorem dX8_late_37 : decode cX8_late 37 = .ok (.aload_n 0, 1) := by decide +kernel
theorem dX8_late_38 : decode cX8_late 38 = .ok (.iload_n 1, 1) := by decide +kernel
theorem dX8_late_39 : decode cX8_late 39 = .ok (.iconst 3, 1) := by decide +kernel
theorem dX8_late_40 : decode cX8_late 40 = .ok (.invokevirtual 110, 3) := by decide +kernel
theorem dX8_late_43 : decode cX8_late 43 = .ok (.iload_n 2, 1) := by decide +kernel
theorem dX8_late_44 : decode cX8_late 44 = .ok (.iadd, 1) := by decide +kernel
theorem dX8_late_45 : decode cX8_late 45 = .ok (.bipush 98, 2) := by decide +kernel
theorem dX8_late_47 : decode cX8_late 47 = .ok (.if_icmp .le 6, 3) := by decide +kernel
theorem dX8_late_50 : decode cX8_late 50 = .ok (.bipush (-2), 2) := by decide +kernel
theorem dX8_late_52 : decode cX8_late 52 = .ok (.ireturn, 1) := by decide +kernel
theorem dX8_late_53 : decode cX8_late 53 = .ok (.aload_n 0, 1) := by decide +kernel
theorem dX8_late_54 : decode cX8_late 54 = .ok (.invokevirtual 145, 3) := by decide +kernel
theorem dX8_late_57 : decode cX8_late 57 = .ok (.aload_n 0, 1) := by decide +kernel
theorem dX8_late_58 : decode cX8_late 58 = .ok (.iload_n 1, 1) := by decide +kernel
theorem dX8_late_59 : decode cX8_late 59 = .ok (.iconst 2, 1) := by decide +kernel
theorem dX8_late_60 : decode cX8_late 60 = .ok (.aload_n 0, 1) := by decide +kernel
theorem dX8_late_61 : decode cX8_late 61 = .ok (.iload_n 1, 1) := by decide +kernel
theorem dX8_late_62 : decode cX8_late 62 = .ok (.iconst 2, 1) := by decide +kernel
theorem dX8_late_63 : decode cX8_late 63 = .ok (.invokevirtual 110, 3) := by decide +kernel
theorem dX8_late_66 : decode cX8_late 66 = .ok (.iload_n 2, 1) := by decide +kernel
theorem dX8_late_67 : decode cX8_late 67 = .ok (.iadd, 1) := by decide +kernel
theorem dX8_late_68 : decode cX8_late 68 = .ok (.invokevirtual 148, 3) := by decide +kernel
theorem dX8_late_71 : decode cX8_late 71 = .ok (.aload_n 0, 1) := by decide +kernel
theorem dX8_late_72 : decode cX8_late 72 = .ok (.iload_n 1, 1) := by decide +kernel
theorem dX8_late_73 : decode cX8_late 73 = .ok (.iconst 3, 1) := by decide +kernel
theorem dX8_late_74 : decode cX8_late 74 = .ok (.aload_n 0, 1) := by decide +kernel
theorem dX8_late_75 : decode cX8_late 75 = .ok (.iload_n 1, 1) := by decide +kernel
theorem dX8_late_76 : decode cX8_late 76 = .ok (.iconst 3, 1) := by decide +kernel
theorem dX8_late_77 : decode cX8_late 77 = .ok (.invokevirtual 110, 3) := by decide +kernel
theorem dX8_late_80 : decode cX8_late 80 = .ok (.iload_n 2, 1) := by decide +kernel
theorem dX8_late_81 : decode cX8_late 81 = .ok (.iadd, 1) := by decide +kernel
theorem dX8_late_82 : decode cX8_late 82 = .ok (.invokevirtual 148, 3) := by decide +kernel
theorem dX8_late_85 : decode cX8_late 85 = .ok (.aload_n 0, 1) := by decide +kernel
theorem dX8_late_86 : decode cX8_late 86 = .ok (.iload_n 1, 1) := by decide +kernel
theorem dX8_late_87 : decode cX8_late 87 = .ok (.bipush 6, 2) := by decide +kernel
theorem dX8_late_89 : decode cX8_late 89 = .ok (.invokevirtual 110, 3) := by decide +kernel
theorem dX8_late_92 : decode cX8_late 92 = .ok (.bipush (-4), 2) := by decide +kernel
theorem dX8_late_94 : decode cX8_late 94 = .ok (.if_icmp .eq 20, 3) := by decide +kernel
theorem dX8_late_97 : decode cX8_late 97 = .ok (.aload_n 0, 1) := by decide +kernel
theorem dX8_late_98 : decode cX8_late 98 = .ok (.iload_n 1, 1) := by decide +kernel
theorem dX8_late_99 : decode cX8_late 99 = .ok (.aload_n 0, 1) := by decide +kernel
theorem dX8_late_100 : decode cX8_late 100 = .ok (.iload_n 1, 1) := by decide +kernel
theorem dX8_late_101 : decode cX8_late 101 = .ok (.bipush 6, 2) := by decide +kernel
theorem dX8_late_103 : decode cX8_late 103 = .ok (.invokevirtual 110, 3) := by decide +kernel
theorem dX8_late_106 : decode cX8_late 106 = .ok (.invokevirtual 126, 3) := by decide +kernel
theorem dX8_late_109 : decode cX8_late 109 = .ok (.bipush (-4), 2) := by decide +kernel
theorem dX8_late_111 : decode cX8_late 111 = .ok (.if_icmp .ne 5, 3) := by decide +kernel
theorem dX8_late_114 : decode cX8_late 114 = .ok (.iconst 0, 1) := by decide +kernel
theorem dX8_late_115 : decode cX8_late 115 = .ok (.ireturn, 1) := by decide +kernel
theorem dX8_late_116 : decode cX8_late 116 = .ok (.aload_n 0, 1) := by decide +kernel
theorem dX8_late_117 : decode cX8_late 117 = .ok (.iload_n 1, 1) := by decide +kernel
theorem dX8_late_118 : decode cX8_late 118 = .ok (.bipush 6, 2) := by decide +kernel
theorem dX8_late_120 : decode cX8_late 120 = .ok (.bipush (-4), 2) := by decide +kernel
theorem dX8_late_122 : decode cX8_late 122 = .ok (.invokevirtual 148, 3) := by decide +kernel
theorem dX8_late_125 : decode cX8_late 125 = .ok (.iconst 1, 1) := by decide +kernel
theorem dX8_late_126 : decode cX8_late 126 = .ok (.ireturn, 1) := by decide +kernel
theorem dX8_wish_0 : decode cX8_wish 0 = .ok (.aload_n 0, 1) := by decide +kernel
theorem dX8_wish_1 : decode cX8_wish 1 = .ok (.iload_n 1, 1) := by decide +kernel
theorem dX8_wish_2 : decode cX8_wish 2 = .ok (.invokevirtual 135, 3) := by decide +kernel
theorem dX8_wish_5 : decode cX8_wish 5 = .ok (.ifCond .eq 17, 3) := by decide +kernel
theorem dX8_wish_8 : decode cX8_wish 8 = .ok (.iload_n 2, 1) := by decide +kernel
theorem dX8_wish_9 : decode cX8_wish 9 = .ok (.bipush 9, 2) := by decide +kernel
theorem dX8_wish_11 : decode cX8_wish 11 = .ok (.if_icmp .eq 13, 3) := by decide +kernel
theorem dX8_wish_14 : decode cX8_wish 14 = .ok (.aload_n 0, 1) := by decide +kernel
theorem dX8_wish_15 : decode cX8_wish 15 = .ok (.iload_n 2, 1) := by decide +kernel
theorem dX8_wish_16 : decode cX8_wish 16 = .ok (.invokevirtual 102, 3) := by decide +kernel
theorem dX8_wish_19 : decode cX8_wish 19 = .ok (.ifCond .ne 5, 3) := by decide +kernel
theorem dX8_wish_22 : decode cX8_wish 22 = .ok (.iconst (-1), 1) := by decide +kernel
theorem dX8_wish_23 : decode cX8_wish 23 = .ok (.ireturn, 1) := by decide +kernel
theorem dX8_wish_24 : decode cX8_wish 24 = .ok (.iload_n 2, 1) := by decide +kernel
theorem dX8_wish_25 : decode cX8_wish 25 = .ok (.bipush 9, 2) := by decide +kernel
theorem dX8_wish_27 : decode cX8_wish 27 = .ok (.if_icmp .ne 8, 3) := by decide +kernel
theorem dX8_wish_30 : decode cX8_wish 30 = .ok (.bipush (-4), 2) := by decide +kernel
theorem dX8_wish_32 : decode cX8_wish 32 = .ok (.goto 4, 3) := by decide +kernel
theorem dX8_wish_35 : decode cX8_wish 35 = .ok (.iload_n 2, 1) := by decide +kernel
theorem dX8_wish_36 : decode cX8_wish 36 = .ok (.istore_n 3, 1) := by decide +kernel
theorem dX8_wish_37 : decode cX8_wish 37 = .ok (.aload_n 0, 1) := by decide +kernel
theorem dX8_wish_38 : decode cX8_wish 38 = .ok (.iload_n 1, 1) := by decide +kernel
theorem dX8_wish_39 : decode cX8_wish 39 = .ok (.iconst 4, 1) := by decide +kernel
theorem dX8_wish_40 : decode cX8_wish 40 = .ok (.invokevirtual 110, 3) := by decide +kernel
theorem dX8_wish_43 : decode cX8_wish 43 = .ok (.istore 4, 2) := by decide +kernel
theorem dX8_wish_45 : decode cX8_wish 45 = .ok (.iload 4, 2) := by decide +kernel
theorem dX8_wish_47 : decode cX8_wish 47 = .ok (.iload_n 3, 1) := by decide +kernel
theorem dX8_wish_48 : decode cX8_wish 48 = .ok (.if_icmp .ne 6, 3) := by decide +kernel
theorem dX8_wish_51 : decode cX8_wish 51 = .ok (.bipush (-2), 2) := by decide +kernel
theorem dX8_wish_53 : decode cX8_wish 53 = .ok (.ireturn, 1) := by decide +kernel
theorem dX8_wish_54 : decode cX8_wish 54 = .ok (.aload_n 0, 1) := by decide +kernel
theorem dX8_wish_55 : decode cX8_wish 55 = .ok (.invokevirtual 145, 3) := by decide +kernel
theorem dX8_wish_58 : decode cX8_wish 58 = .ok (.aload_n 0, 1) := by decide +kernel
theorem dX8_wish_59 : decode cX8_wish 59 = .ok (.iload_n 1, 1) := by decide +kernel
theorem dX8_wish_60 : decode cX8_wish 60 = .ok (.iconst 4, 1) := by decide +kernel
theorem dX8_wish_61 : decode cX8_wish 61 = .ok (.iload_n 3, 1) := by decide +kernel
theorem dX8_wish_62 : decode cX8_wish 62 = .ok (.invokevirtual 148, 3) := by decide +kernel
theorem dX8_wish_65 : decode cX8_wish 65 = .ok (.iload 4, 2) := by decide +kernel
theorem dX8_wish_67 : decode cX8_wish 67 = .ok (.bipush (-4), 2) := by decide +kernel
theorem dX8_wish_69 : decode cX8_wish 69 = .ok (.if_icmp .ne 8, 3) := by decide +kernel
theorem dX8_wish_72 : decode cX8_wish 72 = .ok (.bipush 9, 2) := by decide +kernel
theorem dX8_wish_74 : decode cX8_wish 74 = .ok (.goto 5, 3) := by decide +kernel
theorem dX8_wish_77 : decode cX8_wish 77 = .ok (.iload 4, 2) := by decide +kernel
theorem dX8_wish_79 : decode cX8_wish 79 = .ok (.ireturn, 1) := by decide +kernel
theorem dX8_laysClashes_0 : decode cX8_laysClashes 0 = .ok (.aload_n 0, 1) := by decide +kernel
theorem dX8_laysClashes_1 : decode cX8_laysClashes 1 = .ok (.getfield 7, 3) := by decide +kernel
theorem dX8_laysClashes_4 : decode cX8_laysClashes 4 = .ok (.iconst 1, 1) := by decide +kernel
theorem dX8_laysClashes_5 : decode cX8_laysClashes 5 = .ok (.iaload, 1) := by decide +kernel
theorem dX8_laysClashes_6 : decode cX8_laysClashes 6 = .ok (.istore_n 2, 1) := by decide +kernel
theorem dX8_laysClashes_7 : decode cX8_laysClashes 7 = .ok (.iconst 0, 1) := by decide +kernel
theorem dX8_laysClashes_8 : decode cX8_laysClashes 8 = .ok (.istore_n 3, 1) := by decide +kernel
theorem dX8_laysClashes_9 : decode cX8_laysClashes 9 = .ok (.iload_n 3, 1) := by decide +kernel
theorem dX8_laysClashes_10 : decode cX8_laysClashes 10 = .ok (.iconst 4, 1) := by decide +kernel
theorem dX8_laysClashes_11 : decode cX8_laysClashes 11 = .ok (.aload_n 0, 1) := by decide +kernel
theorem dX8_laysClashes_12 : decode cX8_laysClashes 12 = .ok (.getfield 7, 3) := by decide +kernel
theorem dX8_laysClashes_15 : decode cX8_laysClashes 15 = .ok (.iconst 2, 1) := by decide +kernel
theorem dX8_laysClashes_16 : decode cX8_laysClashes 16 = .ok (.iaload, 1) := by decide +kernel
theorem dX8_laysClashes_17 : decode cX8_laysClashes 17 = .ok (.imul, 1) := by decide +kernel
theorem dX8_laysClashes_18 : decode cX8_laysClashes 18 = .ok (.if_icmp .ge 73, 3) := by decide +kernel
theorem dX8_laysClashes_21 : decode cX8_laysClashes 21 = .ok (.iload_n 3, 1) := by decide +kernel
theorem dX8_laysClashes_22 : decode cX8_laysClashes 22 = .ok (.iconst 4, 1) := by decide +kernel
theorem dX8_laysClashes_23 : decode cX8_laysClashes 23 = .ok (.idiv, 1) := by decide +kernel
theorem dX8_laysClashes_24 : decode cX8_laysClashes 24 = .ok (.istore 4, 2) := by decide +kernel
theorem dX8_laysClashes_26 : decode cX8_laysClashes 26 = .ok (.iload_n 3, 1) := by decide +kernel
theorem dX8_laysClashes_27 : decode cX8_laysClashes 27 = .ok (.iconst 4, 1) := by decide +kernel
theorem dX8_laysClashes_28 : decode cX8_laysClashes 28 = .ok (.irem, 1) := by decide +kernel
theorem dX8_laysClashes_29 : decode cX8_laysClashes 29 = .ok (.istore 5, 2) := by decide +kernel
theorem dX8_laysClashes_31 : decode cX8_laysClashes 31 = .ok (.aload_n 0, 1) := by decide +kernel
theorem dX8_laysClashes_32 : decode cX8_laysClashes 32 = .ok (.getfield 25, 3) := by decide +kernel
theorem dX8_laysClashes_35 : decode cX8_laysClashes 35 = .ok (.iload_n 3, 1) := by decide +kernel
theorem dX8_laysClashes_36 : decode cX8_laysClashes 36 = .ok (.iload 5, 2) := by decide +kernel
theorem dX8_laysClashes_38 : decode cX8_laysClashes 38 = .ok (.iload_n 2, 1) := by decide +kernel
theorem dX8_laysClashes_39 : decode cX8_laysClashes 39 = .ok (.if_icmp .ge 44, 3) := by decide +kernel
theorem dX8_laysClashes_42 : decode cX8_laysClashes 42 = .ok (.aload_n 0, 1) := by decide +kernel
theorem dX8_laysClashes_43 : decode cX8_laysClashes 43 = .ok (.iload 4, 2) := by decide +kernel
theorem dX8_laysClashes_45 : decode cX8_laysClashes 45 = .ok (.iload 5, 2) := by decide +kernel
theorem dX8_laysClashes_47 : decode cX8_laysClashes 47 = .ok (.invokevirtual 129, 3) := by decide +kernel
theorem dX8_laysClashes_50 : decode cX8_laysClashes 50 = .ok (.ifCond .eq 33, 3) := by decide +kernel
theorem dX8_laysClashes_53 : decode cX8_laysClashes 53 = .ok (.aload_n 0, 1) := by decide +kernel
theorem dX8_laysClashes_54 : decode cX8_laysClashes 54 = .ok (.iload 4, 2) := by decide +kernel
theorem dX8_laysClashes_56 : decode cX8_laysClashes 56 = .ok (.iload 5, 2) := by decide +kernel
theorem dX8_laysClashes_58 : decode cX8_laysClashes 58 = .ok (.invokevirtual 113, 3) := by decide +kernel
theorem dX8_laysClashes_61 : decode cX8_laysClashes 61 = .ok (.iload_n 1, 1) := by decide +kernel
theorem dX8_laysClashes_62 : decode cX8_laysClashes 62 = .ok (.iand, 1) := by decide +kernel
theorem dX8_laysClashes_63 : decode cX8_laysClashes 63 = .ok (.ifCond .ne 20, 3) := by decide +kernel
theorem dX8_laysClashes_66 : decode cX8_laysClashes 66 = .ok (.aload_n 0, 1) := by decide +kernel
theorem dX8_laysClashes_67 : decode cX8_laysClashes 67 = .ok (.iload 4, 2) := by decide +kernel
theorem dX8_laysClashes_69 : decode cX8_laysClashes 69 = .ok (.iload 5, 2) := by decide +kernel
theorem dX8_laysClashes_71 : decode cX8_laysClashes 71 = .ok (.invokevirtual 116, 3) := by decide +kernel
theorem dX8_laysClashes_74 : decode cX8_laysClashes 74 = .ok (.iload_n 1, 1) := by decide +kernel
theorem dX8_laysClashes_75 : decode cX8_laysClashes 75 = .ok (.iand, 1) := by decide +kernel
theorem dX8_laysClashes_76 : decode cX8_laysClashes 76 = .ok (.ifCond .ne 7, 3) := by decide +kernel
theorem dX8_laysClashes_79 : decode cX8_laysClashes 79 = .ok (.iconst 1, 1) := by decide +kernel
theorem dX8_laysClashes_80 : decode cX8_laysClashes 80 = .ok (.goto 4, 3) := by decide +kernel
theorem dX8_laysClashes_83 : decode cX8_laysClashes 83 = .ok (.iconst 0, 1) := by decide +kernel
theorem dX8_laysClashes_84 : decode cX8_laysClashes 84 = .ok (.bastore, 1) := by decide +kernel
theorem dX8_laysClashes_85 : decode cX8_laysClashes 85 = .ok (.iinc 3 1, 3) := by decide +kernel
theorem dX8_laysClashes_88 : decode cX8_laysClashes 88 = .ok (.goto (-79), 3) := by decide +kernel
theorem dX8_laysClashes_91 : decode cX8_laysClashes 91 = .ok (.iconst 0, 1) := by decide +kernel
theorem dX8_laysClashes_92 : decode cX8_laysClashes 92 = .ok (.istore_n 3, 1) := by decide +kernel
theorem dX8_laysClashes_93 : decode cX8_laysClashes 93 = .ok (.iload_n 3, 1) := by decide +kernel
theorem dX8_laysClashes_94 : decode cX8_laysClashes 94 = .ok (.iconst 4, 1) := by decide +kernel
theorem dX8_laysClashes_95 : decode cX8_laysClashes 95 = .ok (.aload_n 0, 1) := by decide +kernel
theorem dX8_laysClashes_96 : decode cX8_laysClashes 96 = .ok (.getfield 7, 3) := by decide +kernel
theorem dX8_laysClashes_99 : decode cX8_laysClashes 99 = .ok (.iconst 2, 1) := by decide +kernel
theorem dX8_laysClashes_100 : decode cX8_laysClashes 100 = .ok (.iaload, 1) := by decide +kernel
theorem dX8_laysClashes_101 : decode cX8_laysClashes 101 = .ok (.imul, 1) := by decide +kernel
theorem dX8_laysClashes_102 : decode cX8_laysClashes 102 = .ok (.if_icmp .ge 103, 3) := by decide +kernel
theorem dX8_laysClashes_105 : decode cX8_laysClashes 105 = .ok (.iconst 0, 1) := by decide +kernel
theorem dX8_laysClashes_106 : decode cX8_laysClashes 106 = .ok (.istore 4, 2) := by decide +kernel
theorem dX8_laysClashes_108 : decode cX8_laysClashes 108 = .ok (.iload 4, 2) := by decide +kernel
theorem dX8_laysClashes_110 : decode cX8_laysClashes 110 = .ok (.iload_n 3, 1) := by decide +kernel
theorem dX8_laysClashes_111 : decode cX8_laysClashes 111 = .ok (.if_icmp .ge 88, 3) := by decide +kernel
theorem dX8_laysClashes_114 : decode cX8_laysClashes 114 = .ok (.aload_n 0, 1) := by decide +kernel
theorem dX8_laysClashes_115 : decode cX8_laysClashes 115 = .ok (.getfield 25, 3) := by decide +kernel
theorem dX8_laysClashes_118 : decode cX8_laysClashes 118 = .ok (.iload_n 3, 1) := by decide +kernel
theorem dX8_laysClashes_119 : decode cX8_laysClashes 119 = .ok (.baload, 1) := by decide +kernel
theorem dX8_laysClashes_120 : decode cX8_laysClashes 120 = .ok (.ifCond .eq 27, 3) := by decide +kernel
theorem dX8_laysClashes_123 : decode cX8_laysClashes 123 = .ok (.aload_n 0, 1) := by decide +kernel
theorem dX8_laysClashes_124 : decode cX8_laysClashes 124 = .ok (.getfield 25, 3) := by decide +kernel
theorem dX8_laysClashes_127 : decode cX8_laysClashes 127 = .ok (.iload 4, 2) := by decide +kernel
theorem dX8_laysClashes_129 : decode cX8_laysClashes 129 = .ok (.baload, 1) := by decide +kernel
theorem dX8_laysClashes_130 : decode cX8_laysClashes 130 = .ok (.ifCond .eq 17, 3) := by decide +kernel
theorem dX8_laysClashes_133 : decode cX8_laysClashes 133 = .ok (.iload_n 3, 1) := by decide +kernel
theorem dX8_laysClashes_134 : decode cX8_laysClashes 134 = .ok (.iconst 4, 1) := by decide +kernel
theorem dX8_laysClashes_135 : decode cX8_laysClashes 135 = .ok (.idiv, 1) := by decide +kernel
theorem dX8_laysClashes_136 : decode cX8_laysClashes 136 = .ok (.iload 4, 2) := by decide +kernel
theorem dX8_laysClashes_138 : decode cX8_laysClashes 138 = .ok (.iconst 4, 1) := by decide +kernel
theorem dX8_laysClashes_139 : decode cX8_laysClashes 139 = .ok (.idiv, 1) := by decide +kernel
theorem dX8_laysClashes_140 : decode cX8_laysClashes 140 = .ok (.if_icmp .eq 7, 3) := by decide +kernel
theorem dX8_laysClashes_143 : decode cX8_laysClashes 143 = .ok (.iconst 1, 1) := by decide +kernel
theorem dX8_laysClashes_144 : decode cX8_laysClashes 144 = .ok (.goto 4, 3) := by decide +kernel
theorem dX8_laysClashes_147 : decode cX8_laysClashes 147 = .ok (.iconst 0, 1) := by decide +kernel
theorem dX8_laysClashes_148 : decode cX8_laysClashes 148 = .ok (.istore 5, 2) := by decide +kernel
theorem dX8_laysClashes_150 : decode cX8_laysClashes 150 = .ok (.aload_n 0, 1) := by decide +kernel
theorem dX8_laysClashes_151 : decode cX8_laysClashes 151 = .ok (.getfield 29, 3) := by decide +kernel
theorem dX8_laysClashes_154 : decode cX8_laysClashes 154 = .ok (.bipush 28, 2) := by decide +kernel
theorem dX8_laysClashes_156 : decode cX8_laysClashes 156 = .ok (.iload_n 3, 1) := by decide +kernel
theorem dX8_laysClashes_157 : decode cX8_laysClashes 157 = .ok (.imul, 1) := by decide +kernel
theorem dX8_laysClashes_158 : decode cX8_laysClashes 158 = .ok (.iload 4, 2) := by decide +kernel
theorem dX8_laysClashes_160 : decode cX8_laysClashes 160 = .ok (.iadd, 1) := by decide +kernel
theorem dX8_laysClashes_161 : decode cX8_laysClashes 161 = .ok (.iload 5, 2) := by decide +kernel
theorem dX8_laysClashes_163 : decode cX8_laysClashes 163 = .ok (.ifCond .eq 28, 3) := by decide +kernel
theorem dX8_laysClashes_166 : decode cX8_laysClashes 166 = .ok (.aload_n 0, 1) := by decide +kernel
theorem dX8_laysClashes_167 : decode cX8_laysClashes 167 = .ok (.iload_n 3, 1) := by decide +kernel
theorem dX8_laysClashes_168 : decode cX8_laysClashes 168 = .ok (.iconst 4, 1) := by decide +kernel
theorem dX8_laysClashes_169 : decode cX8_laysClashes 169 = .ok (.idiv, 1) := by decide +kernel
theorem dX8_laysClashes_170 : decode cX8_laysClashes 170 = .ok (.iload_n 3, 1) := by decide +kernel
theorem dX8_laysClashes_171 : decode cX8_laysClashes 171 = .ok (.iconst 4, 1) := by decide +kernel
theorem dX8_laysClashes_172 : decode cX8_laysClashes 172 = .ok (.irem, 1) := by decide +kernel
theorem dX8_laysClashes_173 : decode cX8_laysClashes 173 = .ok (.iload 4, 2) := by decide +kernel
theorem dX8_laysClashes_175 : decode cX8_laysClashes 175 = .ok (.iconst 4, 1) := by decide +kernel
theorem dX8_laysClashes_176 : decode cX8_laysClashes 176 = .ok (.idiv, 1) := by decide +kernel
theorem dX8_laysClashes_177 : decode cX8_laysClashes 177 = .ok (.iload 4, 2) := by decide +kernel
theorem dX8_laysClashes_179 : decode cX8_laysClashes 179 = .ok (.iconst 4, 1) := by decide +kernel
theorem dX8_laysClashes_180 : decode cX8_laysClashes 180 = .ok (.irem, 1) := by decide +kernel
theorem dX8_laysClashes_181 : decode cX8_laysClashes 181 = .ok (.invokevirtual 122, 3) := by decide +kernel
theorem dX8_laysClashes_184 : decode cX8_laysClashes 184 = .ok (.ifCond .le 7, 3) := by decide +kernel
theorem dX8_laysClashes_187 : decode cX8_laysClashes 187 = .ok (.iconst 1, 1) := by decide +kernel
theorem dX8_laysClashes_188 : decode cX8_laysClashes 188 = .ok (.goto 4, 3) := by decide +kernel
theorem dX8_laysClashes_191 : decode cX8_laysClashes 191 = .ok (.iconst 0, 1) := by decide +kernel
theorem dX8_laysClashes_192 : decode cX8_laysClashes 192 = .ok (.bastore, 1) := by decide +kernel
theorem dX8_laysClashes_193 : decode cX8_laysClashes 193 = .ok (.iinc 4 1, 3) := by decide +kernel
theorem dX8_laysClashes_196 : decode cX8_laysClashes 196 = .ok (.goto (-88), 3) := by decide +kernel
theorem dX8_laysClashes_199 : decode cX8_laysClashes 199 = .ok (.iinc 3 1, 3) := by decide +kernel
theorem dX8_laysClashes_202 : decode cX8_laysClashes 202 = .ok (.goto (-109), 3) := by decide +kernel
theorem dX8_laysClashes_205 : decode cX8_laysClashes 205 = .ok (.return_, 1) := by decide +kernel
theorem dX8_may_0 : decode cX8_may 0 = .ok (.iload_n 2, 1) := by decide +kernel
theorem dX8_may_1 : decode cX8_may 1 = .ok (.iconst 4, 1) := by decide +kernel
theorem dX8_may_2 : decode cX8_may 2 = .ok (.if_icmp .eq 16, 3) := by decide +kernel
theorem dX8_may_5 : decode cX8_may 5 = .ok (.aload_n 0, 1) := by decide +kernel
theorem dX8_may_6 : decode cX8_may 6 = .ok (.getfield 25, 3) := by decide +kernel
theorem dX8_may_9 : decode cX8_may 9 = .ok (.iconst 4, 1) := by decide +kernel
theorem dX8_may_10 : decode cX8_may 10 = .ok (.iload_n 1, 1) := by decide +kernel
theorem dX8_may_11 : decode cX8_may 11 = .ok (.imul, 1) := by decide +kernel
theorem dX8_may_12 : decode cX8_may 12 = .ok (.iload_n 2, 1) := by decide +kernel
theorem dX8_may_13 : decode cX8_may 13 = .ok (.iadd, 1) := by decide +kernel
theorem dX8_may_14 : decode cX8_may 14 = .ok (.baload, 1) := by decide +kernel
theorem dX8_may_15 : decode cX8_may 15 = .ok (.ifCond .eq 7, 3) := by decide +kernel
theorem dX8_may_18 : decode cX8_may 18 = .ok (.iconst 1, 1) := by decide +kernel
theorem dX8_may_19 : decode cX8_may 19 = .ok (.goto 4, 3) := by decide +kernel
theorem dX8_may_22 : decode cX8_may 22 = .ok (.iconst 0, 1) := by decide +kernel
theorem dX8_may_23 : decode cX8_may 23 = .ok (.istore_n 3, 1) := by decide +kernel
theorem dX8_may_24 : decode cX8_may 24 = .ok (.iconst 0, 1) := by decide +kernel
theorem dX8_may_25 : decode cX8_may 25 = .ok (.istore 4, 2) := by decide +kernel
theorem dX8_may_27 : decode cX8_may 27 = .ok (.iload 4, 2) := by decide +kernel
theorem dX8_may_29 : decode cX8_may 29 = .ok (.iload_n 1, 1) := by decide +kernel
theorem dX8_may_30 : decode cX8_may 30 = .ok (.if_icmp .ge 64, 3) := by decide +kernel
theorem dX8_may_33 : decode cX8_may 33 = .ok (.iload_n 3, 1) := by decide +kernel
theorem dX8_may_34 : decode cX8_may 34 = .ok (.ifCond .eq 60, 3) := by decide +kernel
theorem dX8_may_37 : decode cX8_may 37 = .ok (.iload_n 2, 1) := by decide +kernel
theorem dX8_may_38 : decode cX8_may 38 = .ok (.iconst 4, 1) := by decide +kernel
theorem dX8_may_39 : decode cX8_may 39 = .ok (.if_icmp .ge 55, 3) := by decide +kernel
theorem dX8_may_42 : decode cX8_may 42 = .ok (.aload_n 0, 1) := by decide +kernel
theorem dX8_may_43 : decode cX8_may 43 = .ok (.getfield 32, 3) := by decide +kernel
theorem dX8_may_46 : decode cX8_may 46 = .ok (.iload 4, 2) := by decide +kernel
theorem dX8_may_48 : decode cX8_may 48 = .ok (.iaload, 1) := by decide +kernel
theorem dX8_may_49 : decode cX8_may 49 = .ok (.iconst 4, 1) := by decide +kernel
theorem dX8_may_50 : decode cX8_may 50 = .ok (.if_icmp .eq 32, 3) := by decide +kernel
theorem dX8_may_53 : decode cX8_may 53 = .ok (.aload_n 0, 1) := by decide +kernel
theorem dX8_may_54 : decode cX8_may 54 = .ok (.getfield 29, 3) := by decide +kernel
theorem dX8_may_57 : decode cX8_may 57 = .ok (.bipush 28, 2) := by decide +kernel
theorem dX8_may_59 : decode cX8_may 59 = .ok (.iconst 4, 1) := by decide +kernel
theorem dX8_may_60 : decode cX8_may 60 = .ok (.iload_n 1, 1) := by decide +kernel
theorem dX8_may_61 : decode cX8_may 61 = .ok (.imul, 1) := by decide +kernel
theorem dX8_may_62 : decode cX8_may 62 = .ok (.iload_n 2, 1) := by decide +kernel
theorem dX8_may_63 : decode cX8_may 63 = .ok (.iadd, 1) := by decide +kernel
theorem dX8_may_64 : decode cX8_may 64 = .ok (.imul, 1) := by decide +kernel
theorem dX8_may_65 : decode cX8_may 65 = .ok (.iconst 4, 1) := by decide +kernel
theorem dX8_may_66 : decode cX8_may 66 = .ok (.iload 4, 2) := by decide +kernel
theorem dX8_may_68 : decode cX8_may 68 = .ok (.imul, 1) := by decide +kernel
theorem dX8_may_69 : decode cX8_may 69 = .ok (.iadd, 1) := by decide +kernel
theorem dX8_may_70 : decode cX8_may 70 = .ok (.aload_n 0, 1) := by decide +kernel
theorem dX8_may_71 : decode cX8_may 71 = .ok (.getfield 32, 3) := by decide +kernel
theorem dX8_may_74 : decode cX8_may 74 = .ok (.iload 4, 2) := by decide +kernel
theorem dX8_may_76 : decode cX8_may 76 = .ok (.iaload, 1) := by decide +kernel
theorem dX8_may_77 : decode cX8_may 77 = .ok (.iadd, 1) := by decide +kernel
theorem dX8_may_78 : decode cX8_may 78 = .ok (.baload, 1) := by decide +kernel
theorem dX8_may_79 : decode cX8_may 79 = .ok (.ifCond .ne 7, 3) := by decide +kernel
theorem dX8_may_82 : decode cX8_may 82 = .ok (.iconst 1, 1) := by decide +kernel
theorem dX8_may_83 : decode cX8_may 83 = .ok (.goto 4, 3) := by decide +kernel
theorem dX8_may_86 : decode cX8_may 86 = .ok (.iconst 0, 1) := by decide +kernel
theorem dX8_may_87 : decode cX8_may 87 = .ok (.istore_n 3, 1) := by decide +kernel
theorem dX8_may_88 : decode cX8_may 88 = .ok (.iinc 4 1, 3) := by decide +kernel
theorem dX8_may_91 : decode cX8_may 91 = .ok (.goto (-64), 3) := by decide +kernel
theorem dX8_may_94 : decode cX8_may 94 = .ok (.iload_n 3, 1) := by decide +kernel
theorem dX8_may_95 : decode cX8_may 95 = .ok (.ireturn, 1) := by decide +kernel
theorem dX8_asTrack_0 : decode cX8_asTrack 0 = .ok (.iload_n 0, 1) := by decide +kernel
theorem dX8_asTrack_1 : decode cX8_asTrack 1 = .ok (.iconst 4, 1) := by decide +kernel
theorem dX8_asTrack_2 : decode cX8_asTrack 2 = .ok (.if_icmp .ne 8, 3) := by decide +kernel
theorem dX8_asTrack_5 : decode cX8_asTrack 5 = .ok (.bipush (-4), 2) := by decide +kernel
theorem dX8_asTrack_7 : decode cX8_asTrack 7 = .ok (.goto 4, 3) := by decide +kernel
theorem dX8_asTrack_10 : decode cX8_asTrack 10 = .ok (.iload_n 0, 1) := by decide +kernel
theorem dX8_asTrack_11 : decode cX8_asTrack 11 = .ok (.ireturn, 1) := by decide +kernel
theorem dX8_like_0 : decode cX8_like 0 = .ok (.iconst 0, 1) := by decide +kernel
theorem dX8_like_1 : decode cX8_like 1 = .ok (.istore_n 3, 1) := by decide +kernel
theorem dX8_like_2 : decode cX8_like 2 = .ok (.iconst 0, 1) := by decide +kernel
theorem dX8_like_3 : decode cX8_like 3 = .ok (.istore 4, 2) := by decide +kernel
theorem dX8_like_5 : decode cX8_like 5 = .ok (.iload 4, 2) := by decide +kernel
theorem dX8_like_7 : decode cX8_like 7 = .ok (.iload_n 2, 1) := by decide +kernel
theorem dX8_like_8 : decode cX8_like 8 = .ok (.if_icmp .ge 73, 3) := by decide +kernel
theorem dX8_like_11 : decode cX8_like 11 = .ok (.aload_n 0, 1) := by decide +kernel
theorem dX8_like_12 : decode cX8_like 12 = .ok (.getfield 32, 3) := by decide +kernel
theorem dX8_like_15 : decode cX8_like 15 = .ok (.iload 4, 2) := by decide +kernel
theorem dX8_like_17 : decode cX8_like 17 = .ok (.iaload, 1) := by decide +kernel
theorem dX8_like_18 : decode cX8_like 18 = .ok (.invokestatic 155, 3) := by decide +kernel
theorem dX8_like_21 : decode cX8_like 21 = .ok (.istore 5, 2) := by decide +kernel
theorem dX8_like_23 : decode cX8_like 23 = .ok (.iload_n 3, 1) := by decide +kernel
theorem dX8_like_24 : decode cX8_like 24 = .ok (.iload_n 1, 1) := by decide +kernel
theorem dX8_like_25 : decode cX8_like 25 = .ok (.ifCond .ne 30, 3) := by decide +kernel
theorem dX8_like_28 : decode cX8_like 28 = .ok (.iload 5, 2) := by decide +kernel
theorem dX8_like_30 : decode cX8_like 30 = .ok (.bipush (-4), 2) := by decide +kernel
theorem dX8_like_32 : decode cX8_like 32 = .ok (.if_icmp .eq 19, 3) := by decide +kernel
theorem dX8_like_35 : decode cX8_like 35 = .ok (.iload 5, 2) := by decide +kernel
theorem dX8_like_37 : decode cX8_like 37 = .ok (.aload_n 0, 1) := by decide +kernel
theorem dX8_like_38 : decode cX8_like 38 = .ok (.iload 4, 2) := by decide +kernel
theorem dX8_like_40 : decode cX8_like 40 = .ok (.iconst 4, 1) := by decide +kernel
theorem dX8_like_41 : decode cX8_like 41 = .ok (.invokevirtual 110, 3) := by decide +kernel
theorem dX8_like_44 : decode cX8_like 44 = .ok (.if_icmp .ne 7, 3) := by decide +kernel
theorem dX8_like_47 : decode cX8_like 47 = .ok (.iconst 1, 1) := by decide +kernel
theorem dX8_like_48 : decode cX8_like 48 = .ok (.goto 25, 3) := by decide +kernel
theorem dX8_like_51 : decode cX8_like 51 = .ok (.iconst 0, 1) := by decide +kernel
theorem dX8_like_52 : decode cX8_like 52 = .ok (.goto 21, 3) := by decide +kernel
theorem dX8_like_55 : decode cX8_like 55 = .ok (.iload 5, 2) := by decide +kernel
theorem dX8_like_57 : decode cX8_like 57 = .ok (.aload_n 0, 1) := by decide +kernel
theorem dX8_like_58 : decode cX8_like 58 = .ok (.iload 4, 2) := by decide +kernel
theorem dX8_like_60 : decode cX8_like 60 = .ok (.bipush 6, 2) := by decide +kernel
theorem dX8_like_62 : decode cX8_like 62 = .ok (.invokevirtual 110, 3) := by decide +kernel
theorem dX8_like_65 : decode cX8_like 65 = .ok (.if_icmp .ne 7, 3) := by decide +kernel
theorem dX8_like_68 : decode cX8_like 68 = .ok (.iconst 1, 1) := by decide +kernel
theorem dX8_like_69 : decode cX8_like 69 = .ok (.goto 4, 3) := by decide +kernel
theorem dX8_like_72 : decode cX8_like 72 = .ok (.iconst 0, 1) := by decide +kernel
theorem dX8_like_73 : decode cX8_like 73 = .ok (.iadd, 1) := by decide +kernel
theorem dX8_like_74 : decode cX8_like 74 = .ok (.istore_n 3, 1) := by decide +kernel
theorem dX8_like_75 : decode cX8_like 75 = .ok (.iinc 4 1, 3) := by decide +kernel
theorem dX8_like_78 : decode cX8_like 78 = .ok (.goto (-73), 3) := by decide +kernel
theorem dX8_like_81 : decode cX8_like 81 = .ok (.iload_n 3, 1) := by decide +kernel
theorem dX8_like_82 : decode cX8_like 82 = .ok (.ireturn, 1) := by decide +kernel
theorem dX8_noneOf_0 : decode cX8_noneOf 0 = .ok (.iconst 0, 1) := by decide +kernel
theorem dX8_noneOf_1 : decode cX8_noneOf 1 = .ok (.istore_n 2, 1) := by decide +kernel
theorem dX8_noneOf_2 : decode cX8_noneOf 2 = .ok (.iconst 0, 1) := by decide +kernel
theorem dX8_noneOf_3 : decode cX8_noneOf 3 = .ok (.istore_n 3, 1) := by decide +kernel
theorem dX8_noneOf_4 : decode cX8_noneOf 4 = .ok (.iload_n 3, 1) := by decide +kernel
theorem dX8_noneOf_5 : decode cX8_noneOf 5 = .ok (.iload_n 1, 1) := by decide +kernel
theorem dX8_noneOf_6 : decode cX8_noneOf 6 = .ok (.if_icmp .ge 27, 3) := by decide +kernel
theorem dX8_noneOf_9 : decode cX8_noneOf 9 = .ok (.iload_n 2, 1) := by decide +kernel
theorem dX8_noneOf_10 : decode cX8_noneOf 10 = .ok (.aload_n 0, 1) := by decide +kernel
theorem dX8_noneOf_11 : decode cX8_noneOf 11 = .ok (.getfield 32, 3) := by decide +kernel
theorem dX8_noneOf_14 : decode cX8_noneOf 14 = .ok (.iload_n 3, 1) := by decide +kernel
theorem dX8_noneOf_15 : decode cX8_noneOf 15 = .ok (.iaload, 1) := by decide +kernel
theorem dX8_noneOf_16 : decode cX8_noneOf 16 = .ok (.iconst 4, 1) := by decide +kernel
theorem dX8_noneOf_17 : decode cX8_noneOf 17 = .ok (.if_icmp .ne 7, 3) := by decide +kernel
theorem dX8_noneOf_20 : decode cX8_noneOf 20 = .ok (.iconst 1, 1) := by decide +kernel
theorem dX8_noneOf_21 : decode cX8_noneOf 21 = .ok (.goto 4, 3) := by decide +kernel
theorem dX8_noneOf_24 : decode cX8_noneOf 24 = .ok (.iconst 0, 1) := by decide +kernel
theorem dX8_noneOf_25 : decode cX8_noneOf 25 = .ok (.iadd, 1) := by decide +kernel
theorem dX8_noneOf_26 : decode cX8_noneOf 26 = .ok (.istore_n 2, 1) := by decide +kernel
theorem dX8_noneOf_27 : decode cX8_noneOf 27 = .ok (.iinc 3 1, 3) := by decide +kernel
theorem dX8_noneOf_30 : decode cX8_noneOf 30 = .ok (.goto (-26), 3) := by decide +kernel
theorem dX8_noneOf_33 : decode cX8_noneOf 33 = .ok (.iload_n 2, 1) := by decide +kernel
theorem dX8_noneOf_34 : decode cX8_noneOf 34 = .ok (.ireturn, 1) := by decide +kernel
theorem dX8_takesIfBetter_0 : decode cX8_takesIfBetter 0 = .ok (.aload_n 0, 1) := by decide +kernel
theorem dX8_takesIfBetter_1 : decode cX8_takesIfBetter 1 = .ok (.getfield 7, 3) := by decide +kernel
theorem dX8_takesIfBetter_4 : decode cX8_takesIfBetter 4 = .ok (.iconst 2, 1) := by decide +kernel
theorem dX8_takesIfBetter_5 : decode cX8_takesIfBetter 5 = .ok (.iaload, 1) := by decide +kernel
theorem dX8_takesIfBetter_6 : decode cX8_takesIfBetter 6 = .ok (.istore_n 2, 1) := by decide +kernel
theorem dX8_takesIfBetter_7 : decode cX8_takesIfBetter 7 = .ok (.aload_n 0, 1) := by decide +kernel
theorem dX8_takesIfBetter_8 : decode cX8_takesIfBetter 8 = .ok (.iload_n 2, 1) := by decide +kernel
theorem dX8_takesIfBetter_9 : decode cX8_takesIfBetter 9 = .ok (.invokevirtual 158, 3) := by decide +kernel
theorem dX8_takesIfBetter_12 : decode cX8_takesIfBetter 12 = .ok (.istore_n 3, 1) := by decide +kernel
theorem dX8_takesIfBetter_13 : decode cX8_takesIfBetter 13 = .ok (.aload_n 0, 1) := by decide +kernel
theorem dX8_takesIfBetter_14 : decode cX8_takesIfBetter 14 = .ok (.iload_n 1, 1) := by decide +kernel
theorem dX8_takesIfBetter_15 : decode cX8_takesIfBetter 15 = .ok (.iload_n 2, 1) := by decide +kernel
theorem dX8_takesIfBetter_16 : decode cX8_takesIfBetter 16 = .ok (.invokevirtual 161, 3) := by decide +kernel
theorem dX8_takesIfBetter_19 : decode cX8_takesIfBetter 19 = .ok (.istore 4, 2) := by decide +kernel
theorem dX8_takesIfBetter_21 : decode cX8_takesIfBetter 21 = .ok (.iload_n 3, 1) := by decide +kernel
theorem dX8_takesIfBetter_22 : decode cX8_takesIfBetter 22 = .ok (.aload_n 0, 1) := by decide +kernel
theorem dX8_takesIfBetter_23 : decode cX8_takesIfBetter 23 = .ok (.getfield 164, 3) := by decide +kernel
theorem dX8_takesIfBetter_26 : decode cX8_takesIfBetter 26 = .ok (.if_icmp .lt 20, 3) := by decide +kernel
theorem dX8_takesIfBetter_29 : decode cX8_takesIfBetter 29 = .ok (.iload_n 3, 1) := by decide +kernel
theorem dX8_takesIfBetter_30 : decode cX8_takesIfBetter 30 = .ok (.aload_n 0, 1) := by decide +kernel
theorem dX8_takesIfBetter_31 : decode cX8_takesIfBetter 31 = .ok (.getfield 164, 3) := by decide +kernel
theorem dX8_takesIfBetter_34 : decode cX8_takesIfBetter 34 = .ok (.if_icmp .ne 52, 3) := by decide +kernel
theorem dX8_takesIfBetter_37 : decode cX8_takesIfBetter 37 = .ok (.iload 4, 2) := by decide +kernel
theorem dX8_takesIfBetter_39 : decode cX8_takesIfBetter 39 = .ok (.aload_n 0, 1) := by decide +kernel
theorem dX8_takesIfBetter_40 : decode cX8_takesIfBetter 40 = .ok (.getfield 167, 3) := by decide +kernel
theorem dX8_takesIfBetter_43 : decode cX8_takesIfBetter 43 = .ok (.if_icmp .le 43, 3) := by decide +kernel
theorem dX8_takesIfBetter_46 : decode cX8_takesIfBetter 46 = .ok (.aload_n 0, 1) := by decide +kernel
theorem dX8_takesIfBetter_47 : decode cX8_takesIfBetter 47 = .ok (.iload_n 3, 1) := by decide +kernel
theorem dX8_takesIfBetter_48 : decode cX8_takesIfBetter 48 = .ok (.putfield 164, 3) := by decide +kernel
theorem dX8_takesIfBetter_51 : decode cX8_takesIfBetter 51 = .ok (.aload_n 0, 1) := by decide +kernel
theorem dX8_takesIfBetter_52 : decode cX8_takesIfBetter 52 = .ok (.iload 4, 2) := by decide +kernel
theorem dX8_takesIfBetter_54 : decode cX8_takesIfBetter 54 = .ok (.putfield 167, 3) := by decide +kernel
theorem dX8_takesIfBetter_57 : decode cX8_takesIfBetter 57 = .ok (.iconst 0, 1) := by decide +kernel
theorem dX8_takesIfBetter_58 : decode cX8_takesIfBetter 58 = .ok (.istore 5, 2) := by decide +kernel
theorem dX8_takesIfBetter_60 : decode cX8_takesIfBetter 60 = .ok (.iload 5, 2) := by decide +kernel
theorem dX8_takesIfBetter_62 : decode cX8_takesIfBetter 62 = .ok (.iload_n 2, 1) := by decide +kernel
theorem dX8_takesIfBetter_63 : decode cX8_takesIfBetter 63 = .ok (.if_icmp .ge 23, 3) := by decide +kernel
theorem dX8_takesIfBetter_66 : decode cX8_takesIfBetter 66 = .ok (.aload_n 0, 1) := by decide +kernel
theorem dX8_takesIfBetter_67 : decode cX8_takesIfBetter 67 = .ok (.getfield 35, 3) := by decide +kernel
theorem dX8_takesIfBetter_70 : decode cX8_takesIfBetter 70 = .ok (.iload 5, 2) := by decide +kernel
theorem dX8_takesIfBetter_72 : decode cX8_takesIfBetter 72 = .ok (.aload_n 0, 1) := by decide +kernel
theorem dX8_takesIfBetter_73 : decode cX8_takesIfBetter 73 = .ok (.getfield 32, 3) := by decide +kernel
theorem dX8_takesIfBetter_76 : decode cX8_takesIfBetter 76 = .ok (.iload 5, 2) := by decide +kernel
theorem dX8_takesIfBetter_78 : decode cX8_takesIfBetter 78 = .ok (.iaload, 1) := by decide +kernel
theorem dX8_takesIfBetter_79 : decode cX8_takesIfBetter 79 = .ok (.iastore, 1) := by decide +kernel
theorem dX8_takesIfBetter_80 : decode cX8_takesIfBetter 80 = .ok (.iinc 5 1, 3) := by decide +kernel
theorem dX8_takesIfBetter_83 : decode cX8_takesIfBetter 83 = .ok (.goto (-23), 3) := by decide +kernel
theorem dX8_takesIfBetter_86 : decode cX8_takesIfBetter 86 = .ok (.return_, 1) := by decide +kernel
theorem dX8_isWorth_0 : decode cX8_isWorth 0 = .ok (.aload_n 0, 1) := by decide +kernel
theorem dX8_isWorth_1 : decode cX8_isWorth 1 = .ok (.iload_n 2, 1) := by decide +kernel
theorem dX8_isWorth_2 : decode cX8_isWorth 2 = .ok (.invokevirtual 158, 3) := by decide +kernel
theorem dX8_isWorth_5 : decode cX8_isWorth 5 = .ok (.istore_n 3, 1) := by decide +kernel
theorem dX8_isWorth_6 : decode cX8_isWorth 6 = .ok (.iload_n 3, 1) := by decide +kernel
theorem dX8_isWorth_7 : decode cX8_isWorth 7 = .ok (.aload_n 0, 1) := by decide +kernel
theorem dX8_isWorth_8 : decode cX8_isWorth 8 = .ok (.getfield 164, 3) := by decide +kernel
theorem dX8_isWorth_11 : decode cX8_isWorth 11 = .ok (.if_icmp .lt 33, 3) := by decide +kernel
theorem dX8_isWorth_14 : decode cX8_isWorth 14 = .ok (.iload_n 3, 1) := by decide +kernel
theorem dX8_isWorth_15 : decode cX8_isWorth 15 = .ok (.aload_n 0, 1) := by decide +kernel
theorem dX8_isWorth_16 : decode cX8_isWorth 16 = .ok (.getfield 164, 3) := by decide +kernel
theorem dX8_isWorth_19 : decode cX8_isWorth 19 = .ok (.if_icmp .ne 29, 3) := by decide +kernel
theorem dX8_isWorth_22 : decode cX8_isWorth 22 = .ok (.aload_n 0, 1) := by decide +kernel
theorem dX8_isWorth_23 : decode cX8_isWorth 23 = .ok (.iload_n 1, 1) := by decide +kernel
theorem dX8_isWorth_24 : decode cX8_isWorth 24 = .ok (.iload_n 2, 1) := by decide +kernel
theorem dX8_isWorth_25 : decode cX8_isWorth 25 = .ok (.invokevirtual 161, 3) := by decide +kernel
theorem dX8_isWorth_28 : decode cX8_isWorth 28 = .ok (.aload_n 0, 1) := by decide +kernel
theorem dX8_isWorth_29 : decode cX8_isWorth 29 = .ok (.getfield 7, 3) := by decide +kernel
theorem dX8_isWorth_32 : decode cX8_isWorth 32 = .ok (.iconst 2, 1) := by decide +kernel
theorem dX8_isWorth_33 : decode cX8_isWorth 33 = .ok (.iaload, 1) := by decide +kernel
theorem dX8_isWorth_34 : decode cX8_isWorth 34 = .ok (.iadd, 1) := by decide +kernel
theorem dX8_isWorth_35 : decode cX8_isWorth 35 = .ok (.iload_n 2, 1) := by decide +kernel
theorem dX8_isWorth_36 : decode cX8_isWorth 36 = .ok (.isub, 1) := by decide +kernel
theorem dX8_isWorth_37 : decode cX8_isWorth 37 = .ok (.aload_n 0, 1) := by decide +kernel
theorem dX8_isWorth_38 : decode cX8_isWorth 38 = .ok (.getfield 167, 3) := by decide +kernel
theorem dX8_isWorth_41 : decode cX8_isWorth 41 = .ok (.if_icmp .le 7, 3) := by decide +kernel
theorem dX8_isWorth_44 : decode cX8_isWorth 44 = .ok (.iconst 1, 1) := by decide +kernel
theorem dX8_isWorth_45 : decode cX8_isWorth 45 = .ok (.goto 4, 3) := by decide +kernel
theorem dX8_isWorth_48 : decode cX8_isWorth 48 = .ok (.iconst 0, 1) := by decide +kernel
theorem dX8_isWorth_49 : decode cX8_isWorth 49 = .ok (.ireturn, 1) := by decide +kernel
theorem dX8_findsWay_0 : decode cX8_findsWay 0 = .ok (.aload_n 0, 1) := by decide +kernel
theorem dX8_findsWay_1 : decode cX8_findsWay 1 = .ok (.iload_n 2, 1) := by decide +kernel
theorem dX8_findsWay_2 : decode cX8_findsWay 2 = .ok (.invokevirtual 170, 3) := by decide +kernel
theorem dX8_findsWay_5 : decode cX8_findsWay 5 = .ok (.aload_n 0, 1) := by decide +kernel
theorem dX8_findsWay_6 : decode cX8_findsWay 6 = .ok (.getfield 7, 3) := by decide +kernel
theorem dX8_findsWay_9 : decode cX8_findsWay 9 = .ok (.iconst 2, 1) := by decide +kernel
theorem dX8_findsWay_10 : decode cX8_findsWay 10 = .ok (.iaload, 1) := by decide +kernel
theorem dX8_findsWay_11 : decode cX8_findsWay 11 = .ok (.istore_n 3, 1) := by decide +kernel
theorem dX8_findsWay_12 : decode cX8_findsWay 12 = .ok (.aload_n 0, 1) := by decide +kernel
theorem dX8_findsWay_13 : decode cX8_findsWay 13 = .ok (.iload_n 3, 1) := by decide +kernel
theorem dX8_findsWay_14 : decode cX8_findsWay 14 = .ok (.iconst 1, 1) := by decide +kernel
theorem dX8_findsWay_15 : decode cX8_findsWay 15 = .ok (.iadd, 1) := by decide +kernel
theorem dX8_findsWay_16 : decode cX8_findsWay 16 = .ok (.putfield 164, 3) := by decide +kernel
theorem dX8_findsWay_19 : decode cX8_findsWay 19 = .ok (.aload_n 0, 1) := by decide +kernel
theorem dX8_findsWay_20 : decode cX8_findsWay 20 = .ok (.iconst 0, 1) := by decide +kernel
theorem dX8_findsWay_21 : decode cX8_findsWay 21 = .ok (.putfield 167, 3) := by decide +kernel
theorem dX8_findsWay_24 : decode cX8_findsWay 24 = .ok (.iload_n 3, 1) := by decide +kernel
theorem dX8_findsWay_25 : decode cX8_findsWay 25 = .ok (.ifCond .ne 9, 3) := by decide +kernel
theorem dX8_findsWay_28 : decode cX8_findsWay 28 = .ok (.aload_n 0, 1) := by decide +kernel
theorem dX8_findsWay_29 : decode cX8_findsWay 29 = .ok (.iload_n 1, 1) := by decide +kernel
theorem dX8_findsWay_30 : decode cX8_findsWay 30 = .ok (.invokevirtual 174, 3) := by decide +kernel
theorem dX8_findsWay_33 : decode cX8_findsWay 33 = .ok (.return_, 1) := by decide +kernel
theorem dX8_findsWay_34 : decode cX8_findsWay 34 = .ok (.iconst 0, 1) := by decide +kernel
theorem dX8_findsWay_35 : decode cX8_findsWay 35 = .ok (.istore 4, 2) := by decide +kernel
theorem dX8_findsWay_37 : decode cX8_findsWay 37 = .ok (.aload_n 0, 1) := by decide +kernel
theorem dX8_findsWay_38 : decode cX8_findsWay 38 = .ok (.getfield 32, 3) := by decide +kernel
theorem dX8_findsWay_41 : decode cX8_findsWay 41 = .ok (.iconst 0, 1) := by decide +kernel
theorem dX8_findsWay_42 : decode cX8_findsWay 42 = .ok (.iconst (-1), 1) := by decide +kernel
theorem dX8_findsWay_43 : decode cX8_findsWay 43 = .ok (.iastore, 1) := by decide +kernel
theorem dX8_findsWay_44 : decode cX8_findsWay 44 = .ok (.iload 4, 2) := by decide +kernel
theorem dX8_findsWay_46 : decode cX8_findsWay 46 = .ok (.ifCond .lt 89, 3) := by decide +kernel
theorem dX8_findsWay_49 : decode cX8_findsWay 49 = .ok (.aload_n 0, 1) := by decide +kernel
theorem dX8_findsWay_50 : decode cX8_findsWay 50 = .ok (.getfield 32, 3) := by decide +kernel
theorem dX8_findsWay_53 : decode cX8_findsWay 53 = .ok (.iload 4, 2) := by decide +kernel
theorem dX8_findsWay_55 : decode cX8_findsWay 55 = .ok (.dup2, 1) := by decide +kernel
theorem dX8_findsWay_56 : decode cX8_findsWay 56 = .ok (.iaload, 1) := by decide +kernel
theorem dX8_findsWay_57 : decode cX8_findsWay 57 = .ok (.iconst 1, 1) := by decide +kernel
theorem dX8_findsWay_58 : decode cX8_findsWay 58 = .ok (.iadd, 1) := by decide +kernel
theorem dX8_findsWay_59 : decode cX8_findsWay 59 = .ok (.iastore, 1) := by decide +kernel
theorem dX8_findsWay_60 : decode cX8_findsWay 60 = .ok (.aload_n 0, 1) := by decide +kernel
theorem dX8_findsWay_61 : decode cX8_findsWay 61 = .ok (.getfield 32, 3) := by decide +kernel
theorem dX8_findsWay_64 : decode cX8_findsWay 64 = .ok (.iload 4, 2) := by decide +kernel
theorem dX8_findsWay_66 : decode cX8_findsWay 66 = .ok (.iaload, 1) := by decide +kernel
theorem dX8_findsWay_67 : decode cX8_findsWay 67 = .ok (.iconst 4, 1) := by decide +kernel
theorem dX8_findsWay_68 : decode cX8_findsWay 68 = .ok (.if_icmp .le 9, 3) := by decide +kernel
theorem dX8_findsWay_71 : decode cX8_findsWay 71 = .ok (.iinc 4 (-1), 3) := by decide +kernel
theorem dX8_findsWay_74 : decode cX8_findsWay 74 = .ok (.goto (-30), 3) := by decide +kernel
theorem dX8_findsWay_77 : decode cX8_findsWay 77 = .ok (.aload_n 0, 1) := by decide +kernel
theorem dX8_findsWay_78 : decode cX8_findsWay 78 = .ok (.iload 4, 2) := by decide +kernel
theorem dX8_findsWay_80 : decode cX8_findsWay 80 = .ok (.aload_n 0, 1) := by decide +kernel
theorem dX8_findsWay_81 : decode cX8_findsWay 81 = .ok (.getfield 32, 3) := by decide +kernel
theorem dX8_findsWay_84 : decode cX8_findsWay 84 = .ok (.iload 4, 2) := by decide +kernel
theorem dX8_findsWay_86 : decode cX8_findsWay 86 = .ok (.iaload, 1) := by decide +kernel
theorem dX8_findsWay_87 : decode cX8_findsWay 87 = .ok (.invokevirtual 177, 3) := by decide +kernel
theorem dX8_findsWay_90 : decode cX8_findsWay 90 = .ok (.ifCond .eq (-46), 3) := by decide +kernel
theorem dX8_findsWay_93 : decode cX8_findsWay 93 = .ok (.aload_n 0, 1) := by decide +kernel
theorem dX8_findsWay_94 : decode cX8_findsWay 94 = .ok (.iload_n 1, 1) := by decide +kernel
theorem dX8_findsWay_95 : decode cX8_findsWay 95 = .ok (.iload 4, 2) := by decide +kernel
theorem dX8_findsWay_97 : decode cX8_findsWay 97 = .ok (.iconst 1, 1) := by decide +kernel
theorem dX8_findsWay_98 : decode cX8_findsWay 98 = .ok (.iadd, 1) := by decide +kernel
theorem dX8_findsWay_99 : decode cX8_findsWay 99 = .ok (.invokevirtual 180, 3) := by decide +kernel
theorem dX8_findsWay_102 : decode cX8_findsWay 102 = .ok (.ifCond .eq (-58), 3) := by decide +kernel
theorem dX8_findsWay_105 : decode cX8_findsWay 105 = .ok (.iload 4, 2) := by decide +kernel
theorem dX8_findsWay_107 : decode cX8_findsWay 107 = .ok (.iload_n 3, 1) := by decide +kernel
theorem dX8_findsWay_108 : decode cX8_findsWay 108 = .ok (.iconst 1, 1) := by decide +kernel
theorem dX8_findsWay_109 : decode cX8_findsWay 109 = .ok (.isub, 1) := by decide +kernel
theorem dX8_findsWay_110 : decode cX8_findsWay 110 = .ok (.if_icmp .ne 11, 3) := by decide +kernel
theorem dX8_findsWay_113 : decode cX8_findsWay 113 = .ok (.aload_n 0, 1) := by decide +kernel
theorem dX8_findsWay_114 : decode cX8_findsWay 114 = .ok (.iload_n 1, 1) := by decide +kernel
theorem dX8_findsWay_115 : decode cX8_findsWay 115 = .ok (.invokevirtual 174, 3) := by decide +kernel
theorem dX8_findsWay_118 : decode cX8_findsWay 118 = .ok (.goto (-74), 3) := by decide +kernel
theorem dX8_findsWay_121 : decode cX8_findsWay 121 = .ok (.iinc 4 1, 3) := by decide +kernel
theorem dX8_findsWay_124 : decode cX8_findsWay 124 = .ok (.aload_n 0, 1) := by decide +kernel
theorem dX8_findsWay_125 : decode cX8_findsWay 125 = .ok (.getfield 32, 3) := by decide +kernel
theorem dX8_findsWay_128 : decode cX8_findsWay 128 = .ok (.iload 4, 2) := by decide +kernel
theorem dX8_findsWay_130 : decode cX8_findsWay 130 = .ok (.iconst (-1), 1) := by decide +kernel
theorem dX8_findsWay_131 : decode cX8_findsWay 131 = .ok (.iastore, 1) := by decide +kernel
theorem dX8_findsWay_132 : decode cX8_findsWay 132 = .ok (.goto (-88), 3) := by decide +kernel
theorem dX8_findsWay_135 : decode cX8_findsWay 135 = .ok (.return_, 1) := by decide +kernel
theorem dX8_otherwise_0 : decode cX8_otherwise 0 = .ok (.iconst 0, 1) := by decide +kernel
theorem dX8_otherwise_1 : decode cX8_otherwise 1 = .ok (.istore_n 1, 1) := by decide +kernel
theorem dX8_otherwise_2 : decode cX8_otherwise 2 = .ok (.iconst 0, 1) := by decide +kernel
theorem dX8_otherwise_3 : decode cX8_otherwise 3 = .ok (.istore_n 2, 1) := by decide +kernel
theorem dX8_otherwise_4 : decode cX8_otherwise 4 = .ok (.iload_n 2, 1) := by decide +kernel
theorem dX8_otherwise_5 : decode cX8_otherwise 5 = .ok (.aload_n 0, 1) := by decide +kernel
theorem dX8_otherwise_6 : decode cX8_otherwise 6 = .ok (.getfield 7, 3) := by decide +kernel
theorem dX8_otherwise_9 : decode cX8_otherwise 9 = .ok (.iconst 2, 1) := by decide +kernel
theorem dX8_otherwise_10 : decode cX8_otherwise 10 = .ok (.iaload, 1) := by decide +kernel
theorem dX8_otherwise_11 : decode cX8_otherwise 11 = .ok (.if_icmp .ge 36, 3) := by decide +kernel
theorem dX8_otherwise_14 : decode cX8_otherwise 14 = .ok (.iload_n 1, 1) := by decide +kernel
theorem dX8_otherwise_15 : decode cX8_otherwise 15 = .ok (.aload_n 0, 1) := by decide +kernel
theorem dX8_otherwise_16 : decode cX8_otherwise 16 = .ok (.getfield 35, 3) := by decide +kernel
theorem dX8_otherwise_19 : decode cX8_otherwise 19 = .ok (.iload_n 2, 1) := by decide +kernel
theorem dX8_otherwise_20 : decode cX8_otherwise 20 = .ok (.iaload, 1) := by decide +kernel
theorem dX8_otherwise_21 : decode cX8_otherwise 21 = .ok (.invokestatic 155, 3) := by decide +kernel
theorem dX8_otherwise_24 : decode cX8_otherwise 24 = .ok (.aload_n 0, 1) := by decide +kernel
theorem dX8_otherwise_25 : decode cX8_otherwise 25 = .ok (.iload_n 2, 1) := by decide +kernel
theorem dX8_otherwise_26 : decode cX8_otherwise 26 = .ok (.bipush 6, 2) := by decide +kernel
theorem dX8_otherwise_28 : decode cX8_otherwise 28 = .ok (.invokevirtual 110, 3) := by decide +kernel
theorem dX8_otherwise_31 : decode cX8_otherwise 31 = .ok (.if_icmp .ne 7, 3) := by decide +kernel
theorem dX8_otherwise_34 : decode cX8_otherwise 34 = .ok (.iconst 0, 1) := by decide +kernel
theorem dX8_otherwise_35 : decode cX8_otherwise 35 = .ok (.goto 4, 3) := by decide +kernel
theorem dX8_otherwise_38 : decode cX8_otherwise 38 = .ok (.iconst 1, 1) := by decide +kernel
theorem dX8_otherwise_39 : decode cX8_otherwise 39 = .ok (.iadd, 1) := by decide +kernel
theorem dX8_otherwise_40 : decode cX8_otherwise 40 = .ok (.istore_n 1, 1) := by decide +kernel
theorem dX8_otherwise_41 : decode cX8_otherwise 41 = .ok (.iinc 2 1, 3) := by decide +kernel
theorem dX8_otherwise_44 : decode cX8_otherwise 44 = .ok (.goto (-40), 3) := by decide +kernel
theorem dX8_otherwise_47 : decode cX8_otherwise 47 = .ok (.iload_n 1, 1) := by decide +kernel
theorem dX8_otherwise_48 : decode cX8_otherwise 48 = .ok (.ireturn, 1) := by decide +kernel
theorem dX8_wished_0 : decode cX8_wished 0 = .ok (.iconst 0, 1) := by decide +kernel
theorem dX8_wished_1 : decode cX8_wished 1 = .ok (.istore_n 1, 1) := by decide +kernel
theorem dX8_wished_2 : decode cX8_wished 2 = .ok (.iconst 0, 1) := by decide +kernel
theorem dX8_wished_3 : decode cX8_wished 3 = .ok (.istore_n 2, 1) := by decide +kernel
theorem dX8_wished_4 : decode cX8_wished 4 = .ok (.iload_n 2, 1) := by decide +kernel
theorem dX8_wished_5 : decode cX8_wished 5 = .ok (.aload_n 0, 1) := by decide +kernel
theorem dX8_wished_6 : decode cX8_wished 6 = .ok (.getfield 7, 3) := by decide +kernel
theorem dX8_wished_9 : decode cX8_wished 9 = .ok (.iconst 2, 1) := by decide +kernel
theorem dX8_wished_10 : decode cX8_wished 10 = .ok (.iaload, 1) := by decide +kernel
theorem dX8_wished_11 : decode cX8_wished 11 = .ok (.if_icmp .ge 43, 3) := by decide +kernel
theorem dX8_wished_14 : decode cX8_wished 14 = .ok (.aload_n 0, 1) := by decide +kernel
theorem dX8_wished_15 : decode cX8_wished 15 = .ok (.getfield 35, 3) := by decide +kernel
theorem dX8_wished_18 : decode cX8_wished 18 = .ok (.iload_n 2, 1) := by decide +kernel
theorem dX8_wished_19 : decode cX8_wished 19 = .ok (.iaload, 1) := by decide +kernel
theorem dX8_wished_20 : decode cX8_wished 20 = .ok (.invokestatic 155, 3) := by decide +kernel
theorem dX8_wished_23 : decode cX8_wished 23 = .ok (.istore_n 3, 1) := by decide +kernel
theorem dX8_wished_24 : decode cX8_wished 24 = .ok (.iload_n 1, 1) := by decide +kernel
theorem dX8_wished_25 : decode cX8_wished 25 = .ok (.iload_n 3, 1) := by decide +kernel
theorem dX8_wished_26 : decode cX8_wished 26 = .ok (.bipush (-4), 2) := by decide +kernel
theorem dX8_wished_28 : decode cX8_wished 28 = .ok (.if_icmp .eq 17, 3) := by decide +kernel
theorem dX8_wished_31 : decode cX8_wished 31 = .ok (.iload_n 3, 1) := by decide +kernel
theorem dX8_wished_32 : decode cX8_wished 32 = .ok (.aload_n 0, 1) := by decide +kernel
theorem dX8_wished_33 : decode cX8_wished 33 = .ok (.iload_n 2, 1) := by decide +kernel
theorem dX8_wished_34 : decode cX8_wished 34 = .ok (.iconst 4, 1) := by decide +kernel
theorem dX8_wished_35 : decode cX8_wished 35 = .ok (.invokevirtual 110, 3) := by decide +kernel
theorem dX8_wished_38 : decode cX8_wished 38 = .ok (.if_icmp .ne 7, 3) := by decide +kernel
theorem dX8_wished_41 : decode cX8_wished 41 = .ok (.iconst 1, 1) := by decide +kernel
theorem dX8_wished_42 : decode cX8_wished 42 = .ok (.goto 4, 3) := by decide +kernel
theorem dX8_wished_45 : decode cX8_wished 45 = .ok (.iconst 0, 1) := by decide +kernel
theorem dX8_wished_46 : decode cX8_wished 46 = .ok (.iadd, 1) := by decide +kernel
theorem dX8_wished_47 : decode cX8_wished 47 = .ok (.istore_n 1, 1) := by decide +kernel
theorem dX8_wished_48 : decode cX8_wished 48 = .ok (.iinc 2 1, 3) := by decide +kernel
theorem dX8_wished_51 : decode cX8_wished 51 = .ok (.goto (-47), 3) := by decide +kernel
theorem dX8_wished_54 : decode cX8_wished 54 = .ok (.iload_n 1, 1) := by decide +kernel
theorem dX8_wished_55 : decode cX8_wished 55 = .ok (.ireturn, 1) := by decide +kernel
theorem dX8_way_0 : decode cX8_way 0 = .ok (.iload_n 1, 1) := by decide +kernel
theorem dX8_way_1 : decode cX8_way 1 = .ok (.iconst 0, 1) := by decide +kernel
theorem dX8_way_2 : decode cX8_way 2 = .ok (.iconst 1, 1) := by decide +kernel
theorem dX8_way_3 : decode cX8_way 3 = .ok (.invokestatic 58, 3) := by decide +kernel
theorem dX8_way_6 : decode cX8_way 6 = .ok (.ifCond .eq 20, 3) := by decide +kernel
theorem dX8_way_9 : decode cX8_way 9 = .ok (.iload_n 2, 1) := by decide +kernel
theorem dX8_way_10 : decode cX8_way 10 = .ok (.bipush (-3), 2) := by decide +kernel
theorem dX8_way_12 : decode cX8_way 12 = .ok (.aload_n 0, 1) := by decide +kernel
theorem dX8_way_13 : decode cX8_way 13 = .ok (.getfield 7, 3) := by decide +kernel
theorem dX8_way_16 : decode cX8_way 16 = .ok (.iconst 2, 1) := by decide +kernel
theorem dX8_way_17 : decode cX8_way 17 = .ok (.iaload, 1) := by decide +kernel
theorem dX8_way_18 : decode cX8_way 18 = .ok (.iconst 1, 1) := by decide +kernel
theorem dX8_way_19 : decode cX8_way 19 = .ok (.isub, 1) := by decide +kernel
theorem dX8_way_20 : decode cX8_way 20 = .ok (.invokestatic 58, 3) := by decide +kernel
theorem dX8_way_23 : decode cX8_way 23 = .ok (.ifCond .ne 5, 3) := by decide +kernel
theorem dX8_way_26 : decode cX8_way 26 = .ok (.iconst (-1), 1) := by decide +kernel
theorem dX8_way_27 : decode cX8_way 27 = .ok (.ireturn, 1) := by decide +kernel
theorem dX8_way_28 : decode cX8_way 28 = .ok (.aload_n 0, 1) := by decide +kernel
theorem dX8_way_29 : decode cX8_way 29 = .ok (.iload_n 1, 1) := by decide +kernel
theorem dX8_way_30 : decode cX8_way 30 = .ok (.iconst 0, 1) := by decide +kernel
theorem dX8_way_31 : decode cX8_way 31 = .ok (.invokevirtual 183, 3) := by decide +kernel
theorem dX8_way_34 : decode cX8_way 34 = .ok (.iload_n 2, 1) := by decide +kernel
theorem dX8_way_35 : decode cX8_way 35 = .ok (.tableswitch 40 (-3) (-1) #[35, 30, 25], 25) := by decide +kernel
theorem dX8_way_60 : decode cX8_way 60 = .ok (.aload_n 0, 1) := by decide +kernel
theorem dX8_way_61 : decode cX8_way 61 = .ok (.getfield 164, 3) := by decide +kernel
theorem dX8_way_64 : decode cX8_way 64 = .ok (.ireturn, 1) := by decide +kernel
theorem dX8_way_65 : decode cX8_way 65 = .ok (.aload_n 0, 1) := by decide +kernel
theorem dX8_way_66 : decode cX8_way 66 = .ok (.invokevirtual 187, 3) := by decide +kernel
theorem dX8_way_69 : decode cX8_way 69 = .ok (.ireturn, 1) := by decide +kernel
theorem dX8_way_70 : decode cX8_way 70 = .ok (.aload_n 0, 1) := by decide +kernel
theorem dX8_way_71 : decode cX8_way 71 = .ok (.invokevirtual 190, 3) := by decide +kernel
theorem dX8_way_74 : decode cX8_way 74 = .ok (.ireturn, 1) := by decide +kernel
theorem dX8_way_75 : decode cX8_way 75 = .ok (.aload_n 0, 1) := by decide +kernel
theorem dX8_way_76 : decode cX8_way 76 = .ok (.getfield 35, 3) := by decide +kernel
theorem dX8_way_79 : decode cX8_way 79 = .ok (.iload_n 2, 1) := by decide +kernel
theorem dX8_way_80 : decode cX8_way 80 = .ok (.iaload, 1) := by decide +kernel
theorem dX8_way_81 : decode cX8_way 81 = .ok (.invokestatic 155, 3) := by decide +kernel
theorem dX8_way_84 : decode cX8_way 84 = .ok (.ireturn, 1) := by decide +kernel
theorem dX8_adopt_0 : decode cX8_adopt 0 = .ok (.iload_n 1, 1) := by decide +kernel
theorem dX8_adopt_1 : decode cX8_adopt 1 = .ok (.iconst 0, 1) := by decide +kernel
theorem dX8_adopt_2 : decode cX8_adopt 2 = .ok (.iconst 1, 1) := by decide +kernel
theorem dX8_adopt_3 : decode cX8_adopt 3 = .ok (.invokestatic 58, 3) := by decide +kernel
theorem dX8_adopt_6 : decode cX8_adopt 6 = .ok (.ifCond .ne 5, 3) := by decide +kernel
theorem dX8_adopt_9 : decode cX8_adopt 9 = .ok (.iconst (-1), 1) := by decide +kernel
theorem dX8_adopt_10 : decode cX8_adopt 10 = .ok (.ireturn, 1) := by decide +kernel
theorem dX8_adopt_11 : decode cX8_adopt 11 = .ok (.aload_n 0, 1) := by decide +kernel
theorem dX8_adopt_12 : decode cX8_adopt 12 = .ok (.iload_n 1, 1) := by decide +kernel
theorem dX8_adopt_13 : decode cX8_adopt 13 = .ok (.iconst 0, 1) := by decide +kernel
theorem dX8_adopt_14 : decode cX8_adopt 14 = .ok (.invokevirtual 183, 3) := by decide +kernel
theorem dX8_adopt_17 : decode cX8_adopt 17 = .ok (.aload_n 0, 1) := by decide +kernel
theorem dX8_adopt_18 : decode cX8_adopt 18 = .ok (.invokevirtual 145, 3) := by decide +kernel
theorem dX8_adopt_21 : decode cX8_adopt 21 = .ok (.aload_n 0, 1) := by decide +kernel
theorem dX8_adopt_22 : decode cX8_adopt 22 = .ok (.invokevirtual 190, 3) := by decide +kernel
theorem dX8_adopt_25 : decode cX8_adopt 25 = .ok (.istore_n 2, 1) := by decide +kernel
theorem dX8_adopt_26 : decode cX8_adopt 26 = .ok (.iconst 0, 1) := by decide +kernel
theorem dX8_adopt_27 : decode cX8_adopt 27 = .ok (.istore_n 3, 1) := by decide +kernel
theorem dX8_adopt_28 : decode cX8_adopt 28 = .ok (.iload_n 3, 1) := by decide +kernel
theorem dX8_adopt_29 : decode cX8_adopt 29 = .ok (.aload_n 0, 1) := by decide +kernel
theorem dX8_adopt_30 : decode cX8_adopt 30 = .ok (.getfield 7, 3) := by decide +kernel
theorem dX8_adopt_33 : decode cX8_adopt 33 = .ok (.iconst 2, 1) := by decide +kernel
theorem dX8_adopt_34 : decode cX8_adopt 34 = .ok (.iaload, 1) := by decide +kernel
theorem dX8_adopt_35 : decode cX8_adopt 35 = .ok (.if_icmp .ge 25, 3) := by decide +kernel
theorem dX8_adopt_38 : decode cX8_adopt 38 = .ok (.aload_n 0, 1) := by decide +kernel
theorem dX8_adopt_39 : decode cX8_adopt 39 = .ok (.iload_n 3, 1) := by decide +kernel
theorem dX8_adopt_40 : decode cX8_adopt 40 = .ok (.bipush 6, 2) := by decide +kernel
theorem dX8_adopt_42 : decode cX8_adopt 42 = .ok (.aload_n 0, 1) := by decide +kernel
theorem dX8_adopt_43 : decode cX8_adopt 43 = .ok (.getfield 35, 3) := by decide +kernel
theorem dX8_adopt_46 : decode cX8_adopt 46 = .ok (.iload_n 3, 1) := by decide +kernel
theorem dX8_adopt_47 : decode cX8_adopt 47 = .ok (.iaload, 1) := by decide +kernel
theorem dX8_adopt_48 : decode cX8_adopt 48 = .ok (.invokestatic 155, 3) := by decide +kernel
theorem dX8_adopt_51 : decode cX8_adopt 51 = .ok (.invokevirtual 148, 3) := by decide +kernel
theorem dX8_adopt_54 : decode cX8_adopt 54 = .ok (.iinc 3 1, 3) := by decide +kernel
theorem dX8_adopt_57 : decode cX8_adopt 57 = .ok (.goto (-29), 3) := by decide +kernel
theorem dX8_adopt_60 : decode cX8_adopt 60 = .ok (.iload_n 2, 1) := by decide +kernel
theorem dX8_adopt_61 : decode cX8_adopt 61 = .ok (.ireturn, 1) := by decide +kernel
theorem dX8_without_0 : decode cX8_without 0 = .ok (.iload_n 1, 1) := by decide +kernel
theorem dX8_without_1 : decode cX8_without 1 = .ok (.iconst 0, 1) := by decide +kernel
theorem dX8_without_2 : decode cX8_without 2 = .ok (.bipush 11, 2) := by decide +kernel
theorem dX8_without_4 : decode cX8_without 4 = .ok (.invokestatic 58, 3) := by decide +kernel
theorem dX8_without_7 : decode cX8_without 7 = .ok (.ifCond .ne 5, 3) := by decide +kernel
theorem dX8_without_10 : decode cX8_without 10 = .ok (.iconst (-1), 1) := by decide +kernel
theorem dX8_without_11 : decode cX8_without 11 = .ok (.ireturn, 1) := by decide +kernel
theorem dX8_without_12 : decode cX8_without 12 = .ok (.aload_n 0, 1) := by decide +kernel
theorem dX8_without_13 : decode cX8_without 13 = .ok (.iconst 0, 1) := by decide +kernel
theorem dX8_without_14 : decode cX8_without 14 = .ok (.iconst 1, 1) := by decide +kernel
theorem dX8_without_15 : decode cX8_without 15 = .ok (.iload_n 1, 1) := by decide +kernel
theorem dX8_without_16 : decode cX8_without 16 = .ok (.ishl, 1) := by decide +kernel
theorem dX8_without_17 : decode cX8_without 17 = .ok (.invokevirtual 183, 3) := by decide +kernel
theorem dX8_without_20 : decode cX8_without 20 = .ok (.aload_n 0, 1) := by decide +kernel
theorem dX8_without_21 : decode cX8_without 21 = .ok (.getfield 164, 3) := by decide +kernel
theorem dX8_without_24 : decode cX8_without 24 = .ok (.ireturn, 1) := by decide +kernel
theorem dX8_onTrack_0 : decode cX8_onTrack 0 = .ok (.iconst 0, 1) := by decide +kernel
theorem dX8_onTrack_1 : decode cX8_onTrack 1 = .ok (.istore_n 3, 1) := by decide +kernel
theorem dX8_onTrack_2 : decode cX8_onTrack 2 = .ok (.iconst 0, 1) := by decide +kernel
theorem dX8_onTrack_3 : decode cX8_onTrack 3 = .ok (.istore 4, 2) := by decide +kernel
theorem dX8_onTrack_5 : decode cX8_onTrack 5 = .ok (.iload 4, 2) := by decide +kernel
theorem dX8_onTrack_7 : decode cX8_onTrack 7 = .ok (.aload_n 0, 1) := by decide +kernel
theorem dX8_onTrack_8 : decode cX8_onTrack 8 = .ok (.getfield 7, 3) := by decide +kernel
theorem dX8_onTrack_11 : decode cX8_onTrack 11 = .ok (.iconst 2, 1) := by decide +kernel
theorem dX8_onTrack_12 : decode cX8_onTrack 12 = .ok (.iaload, 1) := by decide +kernel
theorem dX8_onTrack_13 : decode cX8_onTrack 13 = .ok (.if_icmp .ge 53, 3) := by decide +kernel
theorem dX8_onTrack_16 : decode cX8_onTrack 16 = .ok (.iload_n 3, 1) := by decide +kernel
theorem dX8_onTrack_17 : decode cX8_onTrack 17 = .ok (.aload_n 0, 1) := by decide +kernel
theorem dX8_onTrack_18 : decode cX8_onTrack 18 = .ok (.iload 4, 2) := by decide +kernel
theorem dX8_onTrack_20 : decode cX8_onTrack 20 = .ok (.bipush 6, 2) := by decide +kernel
theorem dX8_onTrack_22 : decode cX8_onTrack 22 = .ok (.invokevirtual 110, 3) := by decide +kernel
theorem dX8_onTrack_25 : decode cX8_onTrack 25 = .ok (.iload_n 1, 1) := by decide +kernel
theorem dX8_onTrack_26 : decode cX8_onTrack 26 = .ok (.if_icmp .ne 31, 3) := by decide +kernel
theorem dX8_onTrack_29 : decode cX8_onTrack 29 = .ok (.iload_n 2, 1) := by decide +kernel
theorem dX8_onTrack_30 : decode cX8_onTrack 30 = .ok (.aload_n 0, 1) := by decide +kernel
theorem dX8_onTrack_31 : decode cX8_onTrack 31 = .ok (.iload 4, 2) := by decide +kernel
theorem dX8_onTrack_33 : decode cX8_onTrack 33 = .ok (.iconst 2, 1) := by decide +kernel
theorem dX8_onTrack_34 : decode cX8_onTrack 34 = .ok (.invokevirtual 110, 3) := by decide +kernel
theorem dX8_onTrack_37 : decode cX8_onTrack 37 = .ok (.aload_n 0, 1) := by decide +kernel
theorem dX8_onTrack_38 : decode cX8_onTrack 38 = .ok (.iload 4, 2) := by decide +kernel
theorem dX8_onTrack_40 : decode cX8_onTrack 40 = .ok (.iconst 3, 1) := by decide +kernel
theorem dX8_onTrack_41 : decode cX8_onTrack 41 = .ok (.invokevirtual 110, 3) := by decide +kernel
theorem dX8_onTrack_44 : decode cX8_onTrack 44 = .ok (.invokestatic 58, 3) := by decide +kernel
theorem dX8_onTrack_47 : decode cX8_onTrack 47 = .ok (.ifCond .eq 10, 3) := by decide +kernel
theorem dX8_onTrack_50 : decode cX8_onTrack 50 = .ok (.iconst 1, 1) := by decide +kernel
theorem dX8_onTrack_51 : decode cX8_onTrack 51 = .ok (.iload 4, 2) := by decide +kernel
theorem dX8_onTrack_53 : decode cX8_onTrack 53 = .ok (.ishl, 1) := by decide +kernel
theorem dX8_onTrack_54 : decode cX8_onTrack 54 = .ok (.goto 4, 3) := by decide +kernel
theorem dX8_onTrack_57 : decode cX8_onTrack 57 = .ok (.iconst 0, 1) := by decide +kernel
theorem dX8_onTrack_58 : decode cX8_onTrack 58 = .ok (.ior, 1) := by decide +kernel
theorem dX8_onTrack_59 : decode cX8_onTrack 59 = .ok (.istore_n 3, 1) := by decide +kernel
theorem dX8_onTrack_60 : decode cX8_onTrack 60 = .ok (.iinc 4 1, 3) := by decide +kernel
theorem dX8_onTrack_63 : decode cX8_onTrack 63 = .ok (.goto (-58), 3) := by decide +kernel
theorem dX8_onTrack_66 : decode cX8_onTrack 66 = .ok (.iload_n 3, 1) := by decide +kernel
theorem dX8_onTrack_67 : decode cX8_onTrack 67 = .ok (.ireturn, 1) := by decide +kernel
theorem dX8_on_0 : decode cX8_on 0 = .ok (.aload_n 0, 1) := by decide +kernel
theorem dX8_on_1 : decode cX8_on 1 = .ok (.iload_n 1, 1) := by decide +kernel
theorem dX8_on_2 : decode cX8_on 2 = .ok (.invokevirtual 102, 3) := by decide +kernel
theorem dX8_on_5 : decode cX8_on 5 = .ok (.ifCond .eq 22, 3) := by decide +kernel
theorem dX8_on_8 : decode cX8_on 8 = .ok (.iload_n 2, 1) := by decide +kernel
theorem dX8_on_9 : decode cX8_on 9 = .ok (.iconst 0, 1) := by decide +kernel
theorem dX8_on_10 : decode cX8_on 10 = .ok (.bipush 99, 2) := by decide +kernel
theorem dX8_on_12 : decode cX8_on 12 = .ok (.invokestatic 58, 3) := by decide +kernel
theorem dX8_on_15 : decode cX8_on 15 = .ok (.ifCond .eq 12, 3) := by decide +kernel
theorem dX8_on_18 : decode cX8_on 18 = .ok (.aload_n 0, 1) := by decide +kernel
theorem dX8_on_19 : decode cX8_on 19 = .ok (.iload_n 1, 1) := by decide +kernel
theorem dX8_on_20 : decode cX8_on 20 = .ok (.iload_n 2, 1) := by decide +kernel
theorem dX8_on_21 : decode cX8_on 21 = .ok (.invokevirtual 193, 3) := by decide +kernel
theorem dX8_on_24 : decode cX8_on 24 = .ok (.goto 4, 3) := by decide +kernel
theorem dX8_on_27 : decode cX8_on 27 = .ok (.iconst (-1), 1) := by decide +kernel
theorem dX8_on_28 : decode cX8_on 28 = .ok (.ireturn, 1) := by decide +kernel
theorem dX8_takenIn_0 : decode cX8_takenIn 0 = .ok (.iconst 0, 1) := by decide +kernel
theorem dX8_takenIn_1 : decode cX8_takenIn 1 = .ok (.istore_n 2, 1) := by decide +kernel
theorem dX8_takenIn_2 : decode cX8_takenIn 2 = .ok (.iconst 0, 1) := by decide +kernel
theorem dX8_takenIn_3 : decode cX8_takenIn 3 = .ok (.istore_n 3, 1) := by decide +kernel
theorem dX8_takenIn_4 : decode cX8_takenIn 4 = .ok (.iload_n 3, 1) := by decide +kernel
theorem dX8_takenIn_5 : decode cX8_takenIn 5 = .ok (.aload_n 0, 1) := by decide +kernel
theorem dX8_takenIn_6 : decode cX8_takenIn 6 = .ok (.getfield 7, 3) := by decide +kernel
theorem dX8_takenIn_9 : decode cX8_takenIn 9 = .ok (.iconst 2, 1) := by decide +kernel
theorem dX8_takenIn_10 : decode cX8_takenIn 10 = .ok (.iaload, 1) := by decide +kernel
theorem dX8_takenIn_11 : decode cX8_takenIn 11 = .ok (.if_icmp .ge 95, 3) := by decide +kernel
theorem dX8_takenIn_14 : decode cX8_takenIn 14 = .ok (.aload_n 0, 1) := by decide +kernel
theorem dX8_takenIn_15 : decode cX8_takenIn 15 = .ok (.iload_n 3, 1) := by decide +kernel
theorem dX8_takenIn_16 : decode cX8_takenIn 16 = .ok (.bipush 6, 2) := by decide +kernel
theorem dX8_takenIn_18 : decode cX8_takenIn 18 = .ok (.invokevirtual 110, 3) := by decide +kernel
theorem dX8_takenIn_21 : decode cX8_takenIn 21 = .ok (.istore 4, 2) := by decide +kernel
theorem dX8_takenIn_23 : decode cX8_takenIn 23 = .ok (.iload 4, 2) := by decide +kernel
theorem dX8_takenIn_25 : decode cX8_takenIn 25 = .ok (.bipush (-4), 2) := by decide +kernel
theorem dX8_takenIn_27 : decode cX8_takenIn 27 = .ok (.if_icmp .eq 73, 3) := by decide +kernel
theorem dX8_takenIn_30 : decode cX8_takenIn 30 = .ok (.iload_n 2, 1) := by decide +kernel
theorem dX8_takenIn_31 : decode cX8_takenIn 31 = .ok (.iload_n 1, 1) := by decide +kernel
theorem dX8_takenIn_32 : decode cX8_takenIn 32 = .ok (.aload_n 0, 1) := by decide +kernel
theorem dX8_takenIn_33 : decode cX8_takenIn 33 = .ok (.iload_n 3, 1) := by decide +kernel
theorem dX8_takenIn_34 : decode cX8_takenIn 34 = .ok (.iconst 2, 1) := by decide +kernel
theorem dX8_takenIn_35 : decode cX8_takenIn 35 = .ok (.invokevirtual 110, 3) := by decide +kernel
theorem dX8_takenIn_38 : decode cX8_takenIn 38 = .ok (.iconst 1, 1) := by decide +kernel
theorem dX8_takenIn_39 : decode cX8_takenIn 39 = .ok (.isub, 1) := by decide +kernel
theorem dX8_takenIn_40 : decode cX8_takenIn 40 = .ok (.aload_n 0, 1) := by decide +kernel
theorem dX8_takenIn_41 : decode cX8_takenIn 41 = .ok (.iload_n 3, 1) := by decide +kernel
theorem dX8_takenIn_42 : decode cX8_takenIn 42 = .ok (.iconst 2, 1) := by decide +kernel
theorem dX8_takenIn_43 : decode cX8_takenIn 43 = .ok (.invokevirtual 110, 3) := by decide +kernel
theorem dX8_takenIn_46 : decode cX8_takenIn 46 = .ok (.invokestatic 58, 3) := by decide +kernel
theorem dX8_takenIn_49 : decode cX8_takenIn 49 = .ok (.ifCond .eq 13, 3) := by decide +kernel
theorem dX8_takenIn_52 : decode cX8_takenIn 52 = .ok (.aload_n 0, 1) := by decide +kernel
theorem dX8_takenIn_53 : decode cX8_takenIn 53 = .ok (.iload_n 3, 1) := by decide +kernel
theorem dX8_takenIn_54 : decode cX8_takenIn 54 = .ok (.iload 4, 2) := by decide +kernel
theorem dX8_takenIn_56 : decode cX8_takenIn 56 = .ok (.invokevirtual 113, 3) := by decide +kernel
theorem dX8_takenIn_59 : decode cX8_takenIn 59 = .ok (.goto 4, 3) := by decide +kernel
theorem dX8_takenIn_62 : decode cX8_takenIn 62 = .ok (.iconst 0, 1) := by decide +kernel
theorem dX8_takenIn_63 : decode cX8_takenIn 63 = .ok (.ior, 1) := by decide +kernel
theorem dX8_takenIn_64 : decode cX8_takenIn 64 = .ok (.istore_n 2, 1) := by decide +kernel
theorem dX8_takenIn_65 : decode cX8_takenIn 65 = .ok (.iload_n 2, 1) := by decide +kernel
theorem dX8_takenIn_66 : decode cX8_takenIn 66 = .ok (.iload_n 1, 1) := by decide +kernel
theorem dX8_takenIn_67 : decode cX8_takenIn 67 = .ok (.aload_n 0, 1) := by decide +kernel
theorem dX8_takenIn_68 : decode cX8_takenIn 68 = .ok (.iload_n 3, 1) := by decide +kernel
theorem dX8_takenIn_69 : decode cX8_takenIn 69 = .ok (.iconst 3, 1) := by decide +kernel
theorem dX8_takenIn_70 : decode cX8_takenIn 70 = .ok (.invokevirtual 110, 3) := by decide +kernel
theorem dX8_takenIn_73 : decode cX8_takenIn 73 = .ok (.aload_n 0, 1) := by decide +kernel
theorem dX8_takenIn_74 : decode cX8_takenIn 74 = .ok (.iload_n 3, 1) := by decide +kernel
theorem dX8_takenIn_75 : decode cX8_takenIn 75 = .ok (.iconst 3, 1) := by decide +kernel
theorem dX8_takenIn_76 : decode cX8_takenIn 76 = .ok (.invokevirtual 110, 3) := by decide +kernel
theorem dX8_takenIn_79 : decode cX8_takenIn 79 = .ok (.iconst 1, 1) := by decide +kernel
theorem dX8_takenIn_80 : decode cX8_takenIn 80 = .ok (.iadd, 1) := by decide +kernel
theorem dX8_takenIn_81 : decode cX8_takenIn 81 = .ok (.invokestatic 58, 3) := by decide +kernel
theorem dX8_takenIn_84 : decode cX8_takenIn 84 = .ok (.ifCond .eq 13, 3) := by decide +kernel
theorem dX8_takenIn_87 : decode cX8_takenIn 87 = .ok (.aload_n 0, 1) := by decide +kernel
theorem dX8_takenIn_88 : decode cX8_takenIn 88 = .ok (.iload_n 3, 1) := by decide +kernel
theorem dX8_takenIn_89 : decode cX8_takenIn 89 = .ok (.iload 4, 2) := by decide +kernel
theorem dX8_takenIn_91 : decode cX8_takenIn 91 = .ok (.invokevirtual 116, 3) := by decide +kernel
theorem dX8_takenIn_94 : decode cX8_takenIn 94 = .ok (.goto 4, 3) := by decide +kernel
theorem dX8_takenIn_97 : decode cX8_takenIn 97 = .ok (.iconst 0, 1) := by decide +kernel
theorem dX8_takenIn_98 : decode cX8_takenIn 98 = .ok (.ior, 1) := by decide +kernel
theorem dX8_takenIn_99 : decode cX8_takenIn 99 = .ok (.istore_n 2, 1) := by decide +kernel
theorem dX8_takenIn_100 : decode cX8_takenIn 100 = .ok (.iinc 3 1, 3) := by decide +kernel
theorem dX8_takenIn_103 : decode cX8_takenIn 103 = .ok (.goto (-99), 3) := by decide +kernel
theorem dX8_takenIn_106 : decode cX8_takenIn 106 = .ok (.iload_n 2, 1) := by decide +kernel
theorem dX8_takenIn_107 : decode cX8_takenIn 107 = .ok (.ireturn, 1) := by decide +kernel
theorem dX8_taken_0 : decode cX8_taken 0 = .ok (.iload_n 1, 1) := by decide +kernel
theorem dX8_taken_1 : decode cX8_taken 1 = .ok (.iconst 0, 1) := by decide +kernel
theorem dX8_taken_2 : decode cX8_taken 2 = .ok (.bipush 99, 2) := by decide +kernel
theorem dX8_taken_4 : decode cX8_taken 4 = .ok (.invokestatic 58, 3) := by decide +kernel
theorem dX8_taken_7 : decode cX8_taken 7 = .ok (.ifCond .eq 11, 3) := by decide +kernel
theorem dX8_taken_10 : decode cX8_taken 10 = .ok (.aload_n 0, 1) := by decide +kernel
theorem dX8_taken_11 : decode cX8_taken 11 = .ok (.iload_n 1, 1) := by decide +kernel
theorem dX8_taken_12 : decode cX8_taken 12 = .ok (.invokevirtual 196, 3) := by decide +kernel
theorem dX8_taken_15 : decode cX8_taken 15 = .ok (.goto 4, 3) := by decide +kernel
theorem dX8_taken_18 : decode cX8_taken 18 = .ok (.iconst (-1), 1) := by decide +kernel
theorem dX8_taken_19 : decode cX8_taken 19 = .ok (.ireturn, 1) := by decide +kernel
theorem dX8_use_0 : decode cX8_use 0 = .ok (.iload_n 1, 1) := by decide +kernel
theorem dX8_use_1 : decode cX8_use 1 = .ok (.iconst 0, 1) := by decide +kernel
theorem dX8_use_2 : decode cX8_use 2 = .ok (.iconst 1, 1) := by decide +kernel
theorem dX8_use_3 : decode cX8_use 3 = .ok (.invokestatic 58, 3) := by decide +kernel
theorem dX8_use_6 : decode cX8_use 6 = .ok (.ifCond .eq 28, 3) := by decide +kernel
theorem dX8_use_9 : decode cX8_use 9 = .ok (.iload_n 2, 1) := by decide +kernel
theorem dX8_use_10 : decode cX8_use 10 = .ok (.iconst 0, 1) := by decide +kernel
theorem dX8_use_11 : decode cX8_use 11 = .ok (.iload_n 1, 1) := by decide +kernel
theorem dX8_use_12 : decode cX8_use 12 = .ok (.ifCond .ne 14, 3) := by decide +kernel
theorem dX8_use_15 : decode cX8_use 15 = .ok (.aload_n 0, 1) := by decide +kernel
theorem dX8_use_16 : decode cX8_use 16 = .ok (.getfield 7, 3) := by decide +kernel
theorem dX8_use_19 : decode cX8_use 19 = .ok (.iconst 1, 1) := by decide +kernel
theorem dX8_use_20 : decode cX8_use 20 = .ok (.iaload, 1) := by decide +kernel
theorem dX8_use_21 : decode cX8_use 21 = .ok (.iconst 1, 1) := by decide +kernel
theorem dX8_use_22 : decode cX8_use 22 = .ok (.isub, 1) := by decide +kernel
theorem dX8_use_23 : decode cX8_use 23 = .ok (.goto 5, 3) := by decide +kernel
theorem dX8_use_26 : decode cX8_use 26 = .ok (.bipush 11, 2) := by decide +kernel
theorem dX8_use_28 : decode cX8_use 28 = .ok (.invokestatic 58, 3) := by decide +kernel
theorem dX8_use_31 : decode cX8_use 31 = .ok (.ifCond .ne 5, 3) := by decide +kernel
theorem dX8_use_34 : decode cX8_use 34 = .ok (.iconst (-1), 1) := by decide +kernel
theorem dX8_use_35 : decode cX8_use 35 = .ok (.ireturn, 1) := by decide +kernel
theorem dX8_use_36 : decode cX8_use 36 = .ok (.iconst 0, 1) := by decide +kernel
theorem dX8_use_37 : decode cX8_use 37 = .ok (.istore_n 3, 1) := by decide +kernel
theorem dX8_use_38 : decode cX8_use 38 = .ok (.iconst 0, 1) := by decide +kernel
theorem dX8_use_39 : decode cX8_use 39 = .ok (.istore 4, 2) := by decide +kernel
theorem dX8_use_41 : decode cX8_use 41 = .ok (.iload 4, 2) := by decide +kernel
theorem dX8_use_43 : decode cX8_use 43 = .ok (.bipush 100, 2) := by decide +kernel
theorem dX8_use_45 : decode cX8_use 45 = .ok (.if_icmp .ge 44, 3) := by decide +kernel
theorem dX8_use_48 : decode cX8_use 48 = .ok (.iload_n 3, 1) := by decide +kernel
theorem dX8_use_49 : decode cX8_use 49 = .ok (.iload_n 1, 1) := by decide +kernel
theorem dX8_use_50 : decode cX8_use 50 = .ok (.ifCond .ne 21, 3) := by decide +kernel
theorem dX8_use_53 : decode cX8_use 53 = .ok (.aload_n 0, 1) := by decide +kernel
theorem dX8_use_54 : decode cX8_use 54 = .ok (.iload_n 2, 1) := by decide +kernel
theorem dX8_use_55 : decode cX8_use 55 = .ok (.iload 4, 2) := by decide +kernel
theorem dX8_use_57 : decode cX8_use 57 = .ok (.invokevirtual 193, 3) := by decide +kernel
theorem dX8_use_60 : decode cX8_use 60 = .ok (.ifCond .eq 7, 3) := by decide +kernel
theorem dX8_use_63 : decode cX8_use 63 = .ok (.iconst 1, 1) := by decide +kernel
theorem dX8_use_64 : decode cX8_use 64 = .ok (.goto 17, 3) := by decide +kernel
theorem dX8_use_67 : decode cX8_use 67 = .ok (.iconst 0, 1) := by decide +kernel
theorem dX8_use_68 : decode cX8_use 68 = .ok (.goto 13, 3) := by decide +kernel
theorem dX8_use_71 : decode cX8_use 71 = .ok (.aload_n 0, 1) := by decide +kernel
theorem dX8_use_72 : decode cX8_use 72 = .ok (.iload 4, 2) := by decide +kernel
theorem dX8_use_74 : decode cX8_use 74 = .ok (.invokevirtual 196, 3) := by decide +kernel
theorem dX8_use_77 : decode cX8_use 77 = .ok (.iload_n 2, 1) := by decide +kernel
theorem dX8_use_78 : decode cX8_use 78 = .ok (.ishr, 1) := by decide +kernel
theorem dX8_use_79 : decode cX8_use 79 = .ok (.iconst 1, 1) := by decide +kernel
theorem dX8_use_80 : decode cX8_use 80 = .ok (.iand, 1) := by decide +kernel
theorem dX8_use_81 : decode cX8_use 81 = .ok (.iadd, 1) := by decide +kernel
theorem dX8_use_82 : decode cX8_use 82 = .ok (.istore_n 3, 1) := by decide +kernel
theorem dX8_use_83 : decode cX8_use 83 = .ok (.iinc 4 1, 3) := by decide +kernel
theorem dX8_use_86 : decode cX8_use 86 = .ok (.goto (-45), 3) := by decide +kernel
theorem dX8_use_89 : decode cX8_use 89 = .ok (.iload_n 3, 1) := by decide +kernel
theorem dX8_use_90 : decode cX8_use 90 = .ok (.ireturn, 1) := by decide +kernel
theorem dX8_asWished_0 : decode cX8_asWished 0 = .ok (.iconst 0, 1) := by decide +kernel
theorem dX8_asWished_1 : decode cX8_asWished 1 = .ok (.istore_n 1, 1) := by decide +kernel
theorem dX8_asWished_2 : decode cX8_asWished 2 = .ok (.iconst 0, 1) := by decide +kernel
theorem dX8_asWished_3 : decode cX8_asWished 3 = .ok (.istore_n 2, 1) := by decide +kernel
theorem dX8_asWished_4 : decode cX8_asWished 4 = .ok (.iload_n 2, 1) := by decide +kernel
theorem dX8_asWished_5 : decode cX8_asWished 5 = .ok (.aload_n 0, 1) := by decide +kernel
theorem dX8_asWished_6 : decode cX8_asWished 6 = .ok (.getfield 7, 3) := by decide +kernel
theorem dX8_asWished_9 : decode cX8_asWished 9 = .ok (.iconst 2, 1) := by decide +kernel
theorem dX8_asWished_10 : decode cX8_asWished 10 = .ok (.iaload, 1) := by decide +kernel
theorem dX8_asWished_11 : decode cX8_asWished 11 = .ok (.if_icmp .ge 45, 3) := by decide +kernel
theorem dX8_asWished_14 : decode cX8_asWished 14 = .ok (.iload_n 1, 1) := by decide +kernel
theorem dX8_asWished_15 : decode cX8_asWished 15 = .ok (.aload_n 0, 1) := by decide +kernel
theorem dX8_asWished_16 : decode cX8_asWished 16 = .ok (.iload_n 2, 1) := by decide +kernel
theorem dX8_asWished_17 : decode cX8_asWished 17 = .ok (.bipush 6, 2) := by decide +kernel
theorem dX8_asWished_19 : decode cX8_asWished 19 = .ok (.invokevirtual 110, 3) := by decide +kernel
theorem dX8_asWished_22 : decode cX8_asWished 22 = .ok (.bipush (-4), 2) := by decide +kernel
theorem dX8_asWished_24 : decode cX8_asWished 24 = .ok (.if_icmp .eq 23, 3) := by decide +kernel
theorem dX8_asWished_27 : decode cX8_asWished 27 = .ok (.aload_n 0, 1) := by decide +kernel
theorem dX8_asWished_28 : decode cX8_asWished 28 = .ok (.iload_n 2, 1) := by decide +kernel
theorem dX8_asWished_29 : decode cX8_asWished 29 = .ok (.bipush 6, 2) := by decide +kernel
theorem dX8_asWished_31 : decode cX8_asWished 31 = .ok (.invokevirtual 110, 3) := by decide +kernel
theorem dX8_asWished_34 : decode cX8_asWished 34 = .ok (.aload_n 0, 1) := by decide +kernel
theorem dX8_asWished_35 : decode cX8_asWished 35 = .ok (.iload_n 2, 1) := by decide +kernel
theorem dX8_asWished_36 : decode cX8_asWished 36 = .ok (.iconst 4, 1) := by decide +kernel
theorem dX8_asWished_37 : decode cX8_asWished 37 = .ok (.invokevirtual 110, 3) := by decide +kernel
theorem dX8_asWished_40 : decode cX8_asWished 40 = .ok (.if_icmp .ne 7, 3) := by decide +kernel
theorem dX8_asWished_43 : decode cX8_asWished 43 = .ok (.iconst 1, 1) := by decide +kernel
theorem dX8_asWished_44 : decode cX8_asWished 44 = .ok (.goto 4, 3) := by decide +kernel
theorem dX8_asWished_47 : decode cX8_asWished 47 = .ok (.iconst 0, 1) := by decide +kernel
theorem dX8_asWished_48 : decode cX8_asWished 48 = .ok (.iadd, 1) := by decide +kernel
theorem dX8_asWished_49 : decode cX8_asWished 49 = .ok (.istore_n 1, 1) := by decide +kernel
theorem dX8_asWished_50 : decode cX8_asWished 50 = .ok (.iinc 2 1, 3) := by decide +kernel
theorem dX8_asWished_53 : decode cX8_asWished 53 = .ok (.goto (-49), 3) := by decide +kernel
theorem dX8_asWished_56 : decode cX8_asWished 56 = .ok (.iload_n 1, 1) := by decide +kernel
theorem dX8_asWished_57 : decode cX8_asWished 57 = .ok (.ireturn, 1) := by decide +kernel
theorem dX8_count_0 : decode cX8_count 0 = .ok (.iload_n 1, 1) := by decide +kernel
theorem dX8_count_1 : decode cX8_count 1 = .ok (.tableswitch 95 0 7 #[47, 54, 61, 68, 75, 80, 85, 90], 47) := by decide +kernel
theorem dX8_count_48 : decode cX8_count 48 = .ok (.aload_n 0, 1) := by decide +kernel
theorem dX8_count_49 : decode cX8_count 49 = .ok (.getfield 7, 3) := by decide +kernel
theorem dX8_count_52 : decode cX8_count 52 = .ok (.iconst 0, 1) := by decide +kernel
theorem dX8_count_53 : decode cX8_count 53 = .ok (.iaload, 1) := by decide +kernel
theorem dX8_count_54 : decode cX8_count 54 = .ok (.ireturn, 1) := by decide +kernel
theorem dX8_count_55 : decode cX8_count 55 = .ok (.aload_n 0, 1) := by decide +kernel
theorem dX8_count_56 : decode cX8_count 56 = .ok (.getfield 7, 3) := by decide +kernel
theorem dX8_count_59 : decode cX8_count 59 = .ok (.iconst 1, 1) := by decide +kernel
theorem dX8_count_60 : decode cX8_count 60 = .ok (.iaload, 1) := by decide +kernel
theorem dX8_count_61 : decode cX8_count 61 = .ok (.ireturn, 1) := by decide +kernel
theorem dX8_count_62 : decode cX8_count 62 = .ok (.aload_n 0, 1) := by decide +kernel
theorem dX8_count_63 : decode cX8_count 63 = .ok (.getfield 7, 3) := by decide +kernel
theorem dX8_count_66 : decode cX8_count 66 = .ok (.iconst 2, 1) := by decide +kernel
theorem dX8_count_67 : decode cX8_count 67 = .ok (.iaload, 1) := by decide +kernel
theorem dX8_count_68 : decode cX8_count 68 = .ok (.ireturn, 1) := by decide +kernel
theorem dX8_count_69 : decode cX8_count 69 = .ok (.aload_n 0, 1) := by decide +kernel
theorem dX8_count_70 : decode cX8_count 70 = .ok (.getfield 7, 3) := by decide +kernel
theorem dX8_count_73 : decode cX8_count 73 = .ok (.iconst 3, 1) := by decide +kernel
theorem dX8_count_74 : decode cX8_count 74 = .ok (.iaload, 1) := by decide +kernel
theorem dX8_count_75 : decode cX8_count 75 = .ok (.ireturn, 1) := by decide +kernel
theorem dX8_count_76 : decode cX8_count 76 = .ok (.aload_n 0, 1) := by decide +kernel
theorem dX8_count_77 : decode cX8_count 77 = .ok (.invokevirtual 152, 3) := by decide +kernel
theorem dX8_count_80 : decode cX8_count 80 = .ok (.ireturn, 1) := by decide +kernel
theorem dX8_count_81 : decode cX8_count 81 = .ok (.aload_n 0, 1) := by decide +kernel
theorem dX8_count_82 : decode cX8_count 82 = .ok (.invokevirtual 199, 3) := by decide +kernel
theorem dX8_count_85 : decode cX8_count 85 = .ok (.ireturn, 1) := by decide +kernel
theorem dX8_count_86 : decode cX8_count 86 = .ok (.aload_n 0, 1) := by decide +kernel
theorem dX8_count_87 : decode cX8_count 87 = .ok (.getfield 48, 3) := by decide +kernel
theorem dX8_count_90 : decode cX8_count 90 = .ok (.ireturn, 1) := by decide +kernel
theorem dX8_count_91 : decode cX8_count 91 = .ok (.aload_n 0, 1) := by decide +kernel
theorem dX8_count_92 : decode cX8_count 92 = .ok (.getfield 55, 3) := by decide +kernel
theorem dX8_count_95 : decode cX8_count 95 = .ok (.ireturn, 1) := by decide +kernel
theorem dX8_count_96 : decode cX8_count 96 = .ok (.iconst (-1), 1) := by decide +kernel
theorem dX8_count_97 : decode cX8_count 97 = .ok (.ireturn, 1) := by decide +kernel
theorem dJ9_max_7cf53_0 : decode cJ9_max_7cf53 0 = .ok (.iload_n 0, 1) := by decide +kernel
theorem dJ9_max_7cf53_1 : decode cJ9_max_7cf53 1 = .ok (.iload_n 1, 1) := by decide +kernel
theorem dJ9_max_7cf53_2 : decode cJ9_max_7cf53 2 = .ok (.if_icmp .lt 7, 3) := by decide +kernel
theorem dJ9_max_7cf53_5 : decode cJ9_max_7cf53 5 = .ok (.iload_n 0, 1) := by decide +kernel
theorem dJ9_max_7cf53_6 : decode cJ9_max_7cf53 6 = .ok (.goto 4, 3) := by decide +kernel
theorem dJ9_max_7cf53_9 : decode cJ9_max_7cf53 9 = .ok (.iload_n 1, 1) := by decide +kernel
theorem dJ9_max_7cf53_10 : decode cJ9_max_7cf53 10 = .ok (.ireturn, 1) := by decide +kernel
theorem dJ9_min_7cf53_0 : decode cJ9_min_7cf53 0 = .ok (.iload_n 0, 1) := by decide +kernel
theorem dJ9_min_7cf53_1 : decode cJ9_min_7cf53 1 = .ok (.iload_n 1, 1) := by decide +kernel
theorem dJ9_min_7cf53_2 : decode cJ9_min_7cf53 2 = .ok (.if_icmp .gt 7, 3) := by decide +kernel
theorem dJ9_min_7cf53_5 : decode cJ9_min_7cf53 5 = .ok (.iload_n 0, 1) := by decide +kernel
theorem dJ9_min_7cf53_6 : decode cJ9_min_7cf53 6 = .ok (.goto 4, 3) := by decide +kernel
theorem dJ9_min_7cf53_9 : decode cJ9_min_7cf53 9 = .ok (.iload_n 1, 1) := by decide +kernel
theorem dJ9_min_7cf53_10 : decode cJ9_min_7cf53 10 = .ok (.ireturn, 1) := by decide +kernel
theorem dJ0_length_8abf5_0 : decode cJ0_length_8abf5 0 = .ok (.aload_n 0, 1) := by decide +kernel
theorem dJ0_length_8abf5_1 : decode cJ0_length_8abf5 1 = .ok (.getfield 9, 3) := by decide +kernel
theorem dJ0_length_8abf5_4 : decode cJ0_length_8abf5 4 = .ok (.arraylength, 1) := by decide +kernel
theorem dJ0_length_8abf5_5 : decode cJ0_length_8abf5 5 = .ok (.aload_n 0, 1) := by decide +kernel
theorem dJ0_length_8abf5_6 : decode cJ0_length_8abf5 6 = .ok (.invokevirtual 335, 3) := by decide +kernel
theorem dJ0_length_8abf5_9 : decode cJ0_length_8abf5 9 = .ok (.ishr, 1) := by decide +kernel
theorem dJ0_length_8abf5_10 : decode cJ0_length_8abf5 10 = .ok (.ireturn, 1) := by decide +kernel
theorem dJ0_charAt_5068e_0 : decode cJ0_charAt_5068e 0 = .ok (.aload_n 0, 1) := by decide +kernel
theorem dJ0_charAt_5068e_1 : decode cJ0_charAt_5068e 1 = .ok (.invokevirtual 492, 3) := by decide +kernel
theorem dJ0_charAt_5068e_4 : decode cJ0_charAt_5068e 4 = .ok (.ifCond .eq 12, 3) := by decide +kernel
theorem dJ0_charAt_5068e_7 : decode cJ0_charAt_5068e 7 = .ok (.aload_n 0, 1) := by decide +kernel
theorem dJ0_charAt_5068e_8 : decode cJ0_charAt_5068e 8 = .ok (.getfield 9, 3) := by decide +kernel
theorem dJ0_charAt_5068e_11 : decode cJ0_charAt_5068e 11 = .ok (.iload_n 1, 1) := by decide +kernel
theorem dJ0_charAt_5068e_12 : decode cJ0_charAt_5068e 12 = .ok (.invokestatic 495, 3) := by decide +kernel
theorem dJ0_charAt_5068e_15 : decode cJ0_charAt_5068e 15 = .ok (.ireturn, 1) := by decide +kernel
theorem dJ0_charAt_5068e_16 : decode cJ0_charAt_5068e 16 = .ok (.aload_n 0, 1) := by decide +kernel
theorem dJ0_charAt_5068e_17 : decode cJ0_charAt_5068e 17 = .ok (.getfield 9, 3) := by decide +kernel
theorem dJ0_charAt_5068e_20 : decode cJ0_charAt_5068e 20 = .ok (.iload_n 1, 1) := by decide +kernel
theorem dJ0_charAt_5068e_21 : decode cJ0_charAt_5068e 21 = .ok (.invokestatic 498, 3) := by decide +kernel
theorem dJ0_charAt_5068e_24 : decode cJ0_charAt_5068e 24 = .ok (.ireturn, 1) := by decide +kernel
theorem dJ0_coder_7d493_0 : decode cJ0_coder_7d493 0 = .ok (.getstatic 38, 3) := by decide +kernel
theorem dJ0_coder_7d493_3 : decode cJ0_coder_7d493 3 = .ok (.ifCond .eq 10, 3) := by decide +kernel
theorem dJ0_coder_7d493_6 : decode cJ0_coder_7d493 6 = .ok (.aload_n 0, 1) := by decide +kernel
theorem dJ0_coder_7d493_7 : decode cJ0_coder_7d493 7 = .ok (.getfield 15, 3) := by decide +kernel
theorem dJ0_coder_7d493_10 : decode cJ0_coder_7d493 10 = .ok (.goto 4, 3) := by decide +kernel
theorem dJ0_coder_7d493_13 : decode cJ0_coder_7d493 13 = .ok (.iconst 1, 1) := by decide +kernel
theorem dJ0_coder_7d493_14 : decode cJ0_coder_7d493 14 = .ok (.ireturn, 1) := by decide +kernel
theorem dJ0_isLatin1_aae02_0 : decode cJ0_isLatin1_aae02 0 = .ok (.getstatic 38, 3) := by decide +kernel
theorem dJ0_isLatin1_aae02_3 : decode cJ0_isLatin1_aae02 3 = .ok (.ifCond .eq 14, 3) := by decide +kernel
theorem dJ0_isLatin1_aae02_6 : decode cJ0_isLatin1_aae02 6 = .ok (.aload_n 0, 1) := by decide +kernel
theorem dJ0_isLatin1_aae02_7 : decode cJ0_isLatin1_aae02 7 = .ok (.getfield 15, 3) := by decide +kernel
theorem dJ0_isLatin1_aae02_10 : decode cJ0_isLatin1_aae02 10 = .ok (.ifCond .ne 7, 3) := by decide +kernel
theorem dJ0_isLatin1_aae02_13 : decode cJ0_isLatin1_aae02 13 = .ok (.iconst 1, 1) := by decide +kernel
theorem dJ0_isLatin1_aae02_14 : decode cJ0_isLatin1_aae02 14 = .ok (.goto 4, 3) := by decide +kernel
theorem dJ0_isLatin1_aae02_17 : decode cJ0_isLatin1_aae02 17 = .ok (.iconst 0, 1) := by decide +kernel
theorem dJ0_isLatin1_aae02_18 : decode cJ0_isLatin1_aae02 18 = .ok (.ireturn, 1) := by decide +kernel
theorem dJ0_checkIndex_df160_0 : decode cJ0_checkIndex_df160 0 = .ok (.iload_n 0, 1) := by decide +kernel
theorem dJ0_checkIndex_df160_1 : decode cJ0_checkIndex_df160 1 = .ok (.iload_n 1, 1) := by decide +kernel
theorem dJ0_checkIndex_df160_2 : decode cJ0_checkIndex_df160 2 = .ok (.getstatic 1053, 3) := by decide +kernel
theorem dJ0_checkIndex_df160_5 : decode cJ0_checkIndex_df160 5 = .ok (.invokestatic 1059, 3) := by decide +kernel
theorem dJ0_checkIndex_df160_8 : decode cJ0_checkIndex_df160 8 = .ok (.pop, 1) := by decide +kernel
theorem dJ0_checkIndex_df160_9 : decode cJ0_checkIndex_df160 9 = .ok (.return_, 1) := by decide +kernel
theorem dJ1_charAt_3b067_0 : decode cJ1_charAt_3b067 0 = .ok (.iload_n 1, 1) := by decide +kernel
theorem dJ1_charAt_3b067_1 : decode cJ1_charAt_3b067 1 = .ok (.aload_n 0, 1) := by decide +kernel
theorem dJ1_charAt_3b067_2 : decode cJ1_charAt_3b067 2 = .ok (.arraylength, 1) := by decide +kernel
theorem dJ1_charAt_3b067_3 : decode cJ1_charAt_3b067 3 = .ok (.invokestatic 9, 3) := by decide +kernel
theorem dJ1_charAt_3b067_6 : decode cJ1_charAt_3b067 6 = .ok (.aload_n 0, 1) := by decide +kernel
theorem dJ1_charAt_3b067_7 : decode cJ1_charAt_3b067 7 = .ok (.iload_n 1, 1) := by decide +kernel
theorem dJ1_charAt_3b067_8 : decode cJ1_charAt_3b067 8 = .ok (.baload, 1) := by decide +kernel
theorem dJ1_charAt_3b067_9 : decode cJ1_charAt_3b067 9 = .ok (.sipush 255, 3) := by decide +kernel
theorem dJ1_charAt_3b067_12 : decode cJ1_charAt_3b067 12 = .ok (.iand, 1) := by decide +kernel
theorem dJ1_charAt_3b067_13 : decode cJ1_charAt_3b067 13 = .ok (.i2c, 1) := by decide +kernel
theorem dJ1_charAt_3b067_14 : decode cJ1_charAt_3b067 14 = .ok (.ireturn, 1) := by decide +kernel
theorem dJ2_getChar_3b067_0 : decode cJ2_getChar_3b067 0 = .ok (.getstatic 44, 3) := by decide +kernel
theorem dJ2_getChar_3b067_3 : decode cJ2_getChar_3b067 3 = .ok (.ifCond .ne 25, 3) := by decide +kernel
theorem dJ2_getChar_3b067_6 : decode cJ2_getChar_3b067 6 = .ok (.iload_n 1, 1) := by decide +kernel
theorem dJ2_getChar_3b067_7 : decode cJ2_getChar_3b067 7 = .ok (.ifCond .lt 11, 3) := by decide +kernel
theorem dJ2_getChar_3b067_10 : decode cJ2_getChar_3b067 10 = .ok (.iload_n 1, 1) := by decide +kernel
theorem dJ2_getChar_3b067_11 : decode cJ2_getChar_3b067 11 = .ok (.aload_n 0, 1) := by decide +kernel
theorem dJ2_getChar_3b067_12 : decode cJ2_getChar_3b067 12 = .ok (.invokestatic 48, 3) := by decide +kernel
theorem dJ2_getChar_3b067_15 : decode cJ2_getChar_3b067 15 = .ok (.if_icmp .lt 13, 3) := by decide +kernel
theorem dJ2_getChar_3b067_18 : decode cJ2_getChar_3b067 18 = .ok (.new 52, 3) := by decide +kernel
theorem dJ2_getChar_3b067_21 : decode cJ2_getChar_3b067 21 = .ok (.dup, 1) := by decide +kernel
theorem dJ2_getChar_3b067_22 : decode cJ2_getChar_3b067 22 = .ok (.ldc 54, 2) := by decide +kernel
theorem dJ2_getChar_3b067_24 : decode cJ2_getChar_3b067 24 = .ok (.invokespecial 56, 3) := by decide +kernel
theorem dJ2_getChar_3b067_27 : decode cJ2_getChar_3b067 27 = .ok (.athrow, 1) := by decide +kernel
theorem dJ2_getChar_3b067_28 : decode cJ2_getChar_3b067 28 = .ok (.iload_n 1, 1) := by decide +kernel
theorem dJ2_getChar_3b067_29 : decode cJ2_getChar_3b067 29 = .ok (.iconst 1, 1) := by decide +kernel
theorem dJ2_getChar_3b067_30 : decode cJ2_getChar_3b067 30 = .ok (.ishl, 1) := by decide +kernel
theorem dJ2_getChar_3b067_31 : decode cJ2_getChar_3b067 31 = .ok (.istore_n 1, 1) := by decide +kernel
theorem dJ2_getChar_3b067_32 : decode cJ2_getChar_3b067 32 = .ok (.aload_n 0, 1) := by decide +kernel
theorem dJ2_getChar_3b067_33 : decode cJ2_getChar_3b067 33 = .ok (.iload_n 1, 1) := by decide +kernel
theorem dJ2_getChar_3b067_34 : decode cJ2_getChar_3b067 34 = .ok (.iinc 1 1, 3) := by decide +kernel
theorem dJ2_getChar_3b067_37 : decode cJ2_getChar_3b067 37 = .ok (.baload, 1) := by decide +kernel
theorem dJ2_getChar_3b067_38 : decode cJ2_getChar_3b067 38 = .ok (.sipush 255, 3) := by decide +kernel
theorem dJ2_getChar_3b067_41 : decode cJ2_getChar_3b067 41 = .ok (.iand, 1) := by decide +kernel
theorem dJ2_getChar_3b067_42 : decode cJ2_getChar_3b067 42 = .ok (.getstatic 59, 3) := by decide +kernel
theorem dJ2_getChar_3b067_45 : decode cJ2_getChar_3b067 45 = .ok (.ishl, 1) := by decide +kernel
theorem dJ2_getChar_3b067_46 : decode cJ2_getChar_3b067 46 = .ok (.aload_n 0, 1) := by decide +kernel
theorem dJ2_getChar_3b067_47 : decode cJ2_getChar_3b067 47 = .ok (.iload_n 1, 1) := by decide +kernel
theorem dJ2_getChar_3b067_48 : decode cJ2_getChar_3b067 48 = .ok (.baload, 1) := by decide +kernel
theorem dJ2_getChar_3b067_49 : decode cJ2_getChar_3b067 49 = .ok (.sipush 255, 3) := by decide +kernel
theorem dJ2_getChar_3b067_52 : decode cJ2_getChar_3b067 52 = .ok (.iand, 1) := by decide +kernel
theorem dJ2_getChar_3b067_53 : decode cJ2_getChar_3b067 53 = .ok (.getstatic 63, 3) := by decide +kernel
theorem dJ2_getChar_3b067_56 : decode cJ2_getChar_3b067 56 = .ok (.ishl, 1) := by decide +kernel
theorem dJ2_getChar_3b067_57 : decode cJ2_getChar_3b067 57 = .ok (.ior, 1) := by decide +kernel
theorem dJ2_getChar_3b067_58 : decode cJ2_getChar_3b067 58 = .ok (.i2c, 1) := by decide +kernel
theorem dJ2_getChar_3b067_59 : decode cJ2_getChar_3b067 59 = .ok (.ireturn, 1) := by decide +kernel
theorem dJ2_length_9d52b_0 : decode cJ2_length_9d52b 0 = .ok (.aload_n 0, 1) := by decide +kernel
theorem dJ2_length_9d52b_1 : decode cJ2_length_9d52b 1 = .ok (.arraylength, 1) := by decide +kernel
theorem dJ2_length_9d52b_2 : decode cJ2_length_9d52b 2 = .ok (.iconst 1, 1) := by decide +kernel
theorem dJ2_length_9d52b_3 : decode cJ2_length_9d52b 3 = .ok (.ishr, 1) := by decide +kernel
theorem dJ2_length_9d52b_4 : decode cJ2_length_9d52b 4 = .ok (.ireturn, 1) := by decide +kernel
theorem dJ2_charAt_3b067_0 : decode cJ2_charAt_3b067 0 = .ok (.iload_n 1, 1) := by decide +kernel
theorem dJ2_charAt_3b067_1 : decode cJ2_charAt_3b067 1 = .ok (.aload_n 0, 1) := by decide +kernel
theorem dJ2_charAt_3b067_2 : decode cJ2_charAt_3b067 2 = .ok (.invokestatic 67, 3) := by decide +kernel
theorem dJ2_charAt_3b067_5 : decode cJ2_charAt_3b067 5 = .ok (.aload_n 0, 1) := by decide +kernel
theorem dJ2_charAt_3b067_6 : decode cJ2_charAt_3b067 6 = .ok (.iload_n 1, 1) := by decide +kernel
theorem dJ2_charAt_3b067_7 : decode cJ2_charAt_3b067 7 = .ok (.invokestatic 71, 3) := by decide +kernel
theorem dJ2_charAt_3b067_10 : decode cJ2_charAt_3b067 10 = .ok (.ireturn, 1) := by decide +kernel
theorem dJ2_checkIndex_2214a_0 : decode cJ2_checkIndex_2214a 0 = .ok (.iload_n 0, 1) := by decide +kernel
theorem dJ2_checkIndex_2214a_1 : decode cJ2_checkIndex_2214a 1 = .ok (.aload_n 1, 1) := by decide +kernel
theorem dJ2_checkIndex_2214a_2 : decode cJ2_checkIndex_2214a 2 = .ok (.invokestatic 48, 3) := by decide +kernel
theorem dJ2_checkIndex_2214a_5 : decode cJ2_checkIndex_2214a 5 = .ok (.invokestatic 414, 3) := by decide +kernel
theorem dJ2_checkIndex_2214a_8 : decode cJ2_checkIndex_2214a 8 = .ok (.return_, 1) := by decide +kernel
theorem dJ3_checkIndex_8e157_0 : decode cJ3_checkIndex_8e157 0 = .ok (.iload_n 0, 1) := by decide +kernel
theorem dJ3_checkIndex_8e157_1 : decode cJ3_checkIndex_8e157 1 = .ok (.ifCond .lt 8, 3) := by decide +kernel
theorem dJ3_checkIndex_8e157_4 : decode cJ3_checkIndex_8e157 4 = .ok (.iload_n 0, 1) := by decide +kernel
theorem dJ3_checkIndex_8e157_5 : decode cJ3_checkIndex_8e157 5 = .ok (.iload_n 1, 1) := by decide +kernel
theorem dJ3_checkIndex_8e157_6 : decode cJ3_checkIndex_8e157 6 = .ok (.if_icmp .lt 10, 3) := by decide +kernel
theorem dJ3_checkIndex_8e157_9 : decode cJ3_checkIndex_8e157 9 = .ok (.aload_n 2, 1) := by decide +kernel
theorem dJ3_checkIndex_8e157_10 : decode cJ3_checkIndex_8e157 10 = .ok (.iload_n 0, 1) := by decide +kernel
theorem dJ3_checkIndex_8e157_11 : decode cJ3_checkIndex_8e157 11 = .ok (.iload_n 1, 1) := by decide +kernel
theorem dJ3_checkIndex_8e157_12 : decode cJ3_checkIndex_8e157 12 = .ok (.invokestatic 95, 3) := by decide +kernel
theorem dJ3_checkIndex_8e157_15 : decode cJ3_checkIndex_8e157 15 = .ok (.athrow, 1) := by decide +kernel
theorem dJ3_checkIndex_8e157_16 : decode cJ3_checkIndex_8e157 16 = .ok (.iload_n 0, 1) := by decide +kernel
theorem dJ3_checkIndex_8e157_17 : decode cJ3_checkIndex_8e157 17 = .ok (.ireturn, 1) := by decide +kernel
theorem dL_law_0 : decode cL_law 0 = .ok (.new 7, 3) := by decide +kernel
theorem dL_law_3 : decode cL_law 3 = .ok (.dup, 1) := by decide +kernel
theorem dL_law_4 : decode cL_law 4 = .ok (.invokespecial 9, 3) := by decide +kernel
theorem dL_law_7 : decode cL_law 7 = .ok (.astore_n 1, 1) := by decide +kernel
theorem dL_law_8 : decode cL_law 8 = .ok (.new 10, 3) := by decide +kernel
theorem dL_law_11 : decode cL_law 11 = .ok (.dup, 1) := by decide +kernel
theorem dL_law_12 : decode cL_law 12 = .ok (.invokespecial 12, 3) := by decide +kernel
theorem dL_law_15 : decode cL_law 15 = .ok (.astore_n 2, 1) := by decide +kernel
theorem dL_law_16 : decode cL_law 16 = .ok (.iconst 0, 1) := by decide +kernel
theorem dL_law_17 : decode cL_law 17 = .ok (.istore_n 3, 1) := by decide +kernel
theorem dL_law_18 : decode cL_law 18 = .ok (.iload_n 3, 1) := by decide +kernel
theorem dL_law_19 : decode cL_law 19 = .ok (.aload_n 0, 1) := by decide +kernel
theorem dL_law_20 : decode cL_law 20 = .ok (.arraylength, 1) := by decide +kernel
theorem dL_law_21 : decode cL_law 21 = .ok (.iconst 5, 1) := by decide +kernel
theorem dL_law_22 : decode cL_law 22 = .ok (.isub, 1) := by decide +kernel
theorem dL_law_23 : decode cL_law 23 = .ok (.if_icmp .gt 651, 3) := by decide +kernel
theorem dL_law_26 : decode cL_law 26 = .ok (.aload_n 0, 1) := by decide +kernel
theorem dL_law_27 : decode cL_law 27 = .ok (.iload_n 3, 1) := by decide +kernel
theorem dL_law_28 : decode cL_law 28 = .ok (.iaload, 1) := by decide +kernel
theorem dL_law_29 : decode cL_law 29 = .ok (.bipush 31, 2) := by decide +kernel
theorem dL_law_31 : decode cL_law 31 = .ok (.iand, 1) := by decide +kernel
theorem dL_law_32 : decode cL_law 32 = .ok (.tableswitch 636 0 19 #[96, 119, 132, 145, 158, 191, 224, 257, 280, 313, 366, 399, 432, 465, 488, 511, 524, 557, 580, 613], 96) := by decide +kernel
theorem dL_law_128 : decode cL_law 128 = .ok (.aload_n 1, 1) := by decide +kernel
theorem dL_law_129 : decode cL_law 129 = .ok (.aload_n 0, 1) := by decide +kernel
theorem dL_law_130 : decode cL_law 130 = .ok (.iload_n 3, 1) := by decide +kernel
theorem dL_law_131 : decode cL_law 131 = .ok (.iconst 1, 1) := by decide +kernel
theorem dL_law_132 : decode cL_law 132 = .ok (.iadd, 1) := by decide +kernel
theorem dL_law_133 : decode cL_law 133 = .ok (.iaload, 1) := by decide +kernel
theorem dL_law_134 : decode cL_law 134 = .ok (.invokevirtual 13, 3) := by decide +kernel
theorem dL_law_137 : decode cL_law 137 = .ok (.aload_n 2, 1) := by decide +kernel
theorem dL_law_138 : decode cL_law 138 = .ok (.aload_n 0, 1) := by decide +kernel
theorem dL_law_139 : decode cL_law 139 = .ok (.iload_n 3, 1) := by decide +kernel
theorem dL_law_140 : decode cL_law 140 = .ok (.iconst 1, 1) := by decide +kernel
theorem dL_law_141 : decode cL_law 141 = .ok (.iadd, 1) := by decide +kernel
theorem dL_law_142 : decode cL_law 142 = .ok (.iaload, 1) := by decide +kernel
theorem dL_law_143 : decode cL_law 143 = .ok (.invokevirtual 17, 3) := by decide +kernel
theorem dL_law_146 : decode cL_law 146 = .ok (.if_icmp .eq 522, 3) := by decide +kernel
theorem dL_law_149 : decode cL_law 149 = .ok (.iconst 0, 1) := by decide +kernel
theorem dL_law_150 : decode cL_law 150 = .ok (.ireturn, 1) := by decide +kernel
theorem dL_law_151 : decode cL_law 151 = .ok (.aload_n 1, 1) := by decide +kernel
theorem dL_law_152 : decode cL_law 152 = .ok (.invokevirtual 18, 3) := by decide +kernel
theorem dL_law_155 : decode cL_law 155 = .ok (.aload_n 2, 1) := by decide +kernel
theorem dL_law_156 : decode cL_law 156 = .ok (.invokevirtual 22, 3) := by decide +kernel
theorem dL_law_159 : decode cL_law 159 = .ok (.if_icmp .eq 509, 3) := by decide +kernel
theorem dL_law_162 : decode cL_law 162 = .ok (.iconst 0, 1) := by decide +kernel
theorem dL_law_163 : decode cL_law 163 = .ok (.ireturn, 1) := by decide +kernel
theorem dL_law_164 : decode cL_law 164 = .ok (.aload_n 1, 1) := by decide +kernel
theorem dL_law_165 : decode cL_law 165 = .ok (.invokevirtual 23, 3) := by decide +kernel
theorem dL_law_168 : decode cL_law 168 = .ok (.aload_n 2, 1) := by decide +kernel
theorem dL_law_169 : decode cL_law 169 = .ok (.invokevirtual 26, 3) := by decide +kernel
theorem dL_law_172 : decode cL_law 172 = .ok (.if_icmp .eq 496, 3) := by decide +kernel
theorem dL_law_175 : decode cL_law 175 = .ok (.iconst 0, 1) := by decide +kernel
theorem dL_law_176 : decode cL_law 176 = .ok (.ireturn, 1) := by decide +kernel
theorem dL_law_177 : decode cL_law 177 = .ok (.aload_n 1, 1) := by decide +kernel
theorem dL_law_178 : decode cL_law 178 = .ok (.invokevirtual 27, 3) := by decide +kernel
theorem dL_law_181 : decode cL_law 181 = .ok (.aload_n 2, 1) := by decide +kernel
theorem dL_law_182 : decode cL_law 182 = .ok (.invokevirtual 30, 3) := by decide +kernel
theorem dL_law_185 : decode cL_law 185 = .ok (.if_icmp .eq 483, 3) := by decide +kernel
theorem dL_law_188 : decode cL_law 188 = .ok (.iconst 0, 1) := by decide +kernel
theorem dL_law_189 : decode cL_law 189 = .ok (.ireturn, 1) := by decide +kernel
theorem dL_law_190 : decode cL_law 190 = .ok (.aload_n 1, 1) := by decide +kernel
theorem dL_law_191 : decode cL_law 191 = .ok (.aload_n 0, 1) := by decide +kernel
theorem dL_law_192 : decode cL_law 192 = .ok (.iload_n 3, 1) := by decide +kernel
theorem dL_law_193 : decode cL_law 193 = .ok (.iconst 1, 1) := by decide +kernel
theorem dL_law_194 : decode cL_law 194 = .ok (.iadd, 1) := by decide +kernel
theorem dL_law_195 : decode cL_law 195 = .ok (.iaload, 1) := by decide +kernel
theorem dL_law_196 : decode cL_law 196 = .ok (.aload_n 0, 1) := by decide +kernel
theorem dL_law_197 : decode cL_law 197 = .ok (.iload_n 3, 1) := by decide +kernel
theorem dL_law_198 : decode cL_law 198 = .ok (.iconst 2, 1) := by decide +kernel
theorem dL_law_199 : decode cL_law 199 = .ok (.iadd, 1) := by decide +kernel
theorem dL_law_200 : decode cL_law 200 = .ok (.iaload, 1) := by decide +kernel
theorem dL_law_201 : decode cL_law 201 = .ok (.invokevirtual 31, 3) := by decide +kernel
theorem dL_law_204 : decode cL_law 204 = .ok (.aload_n 2, 1) := by decide +kernel
theorem dL_law_205 : decode cL_law 205 = .ok (.aload_n 0, 1) := by decide +kernel
theorem dL_law_206 : decode cL_law 206 = .ok (.iload_n 3, 1) := by decide +kernel
theorem dL_law_207 : decode cL_law 207 = .ok (.iconst 1, 1) := by decide +kernel
theorem dL_law_208 : decode cL_law 208 = .ok (.iadd, 1) := by decide +kernel
theorem dL_law_209 : decode cL_law 209 = .ok (.iaload, 1) := by decide +kernel
theorem dL_law_210 : decode cL_law 210 = .ok (.aload_n 0, 1) := by decide +kernel
theorem dL_law_211 : decode cL_law 211 = .ok (.iload_n 3, 1) := by decide +kernel
theorem dL_law_212 : decode cL_law 212 = .ok (.iconst 2, 1) := by decide +kernel
theorem dL_law_213 : decode cL_law 213 = .ok (.iadd, 1) := by decide +kernel
theorem dL_law_214 : decode cL_law 214 = .ok (.iaload, 1) := by decide +kernel
theorem dL_law_215 : decode cL_law 215 = .ok (.invokevirtual 35, 3) := by decide +kernel
theorem dL_law_218 : decode cL_law 218 = .ok (.if_icmp .eq 450, 3) := by decide +kernel
theorem dL_law_221 : decode cL_law 221 = .ok (.iconst 0, 1) := by decide +kernel
theorem dL_law_222 : decode cL_law 222 = .ok (.ireturn, 1) := by decide +kernel
theorem dL_law_223 : decode cL_law 223 = .ok (.aload_n 1, 1) := by decide +kernel
theorem dL_law_224 : decode cL_law 224 = .ok (.aload_n 0, 1) := by decide +kernel
theorem dL_law_225 : decode cL_law 225 = .ok (.iload_n 3, 1) := by decide +kernel
theorem dL_law_226 : decode cL_law 226 = .ok (.iconst 1, 1) := by decide +kernel
theorem dL_law_227 : decode cL_law 227 = .ok (.iadd, 1) := by decide +kernel
theorem dL_law_228 : decode cL_law 228 = .ok (.iaload, 1) := by decide +kernel
theorem dL_law_229 : decode cL_law 229 = .ok (.aload_n 0, 1) := by decide +kernel
theorem dL_law_230 : decode cL_law 230 = .ok (.iload_n 3, 1) := by decide +kernel
theorem dL_law_231 : decode cL_law 231 = .ok (.iconst 2, 1) := by decide +kernel
theorem dL_law_232 : decode cL_law 232 = .ok (.iadd, 1) := by decide +kernel
theorem dL_law_233 : decode cL_law 233 = .ok (.iaload, 1) := by decide +kernel
theorem dL_law_234 : decode cL_law 234 = .ok (.invokevirtual 36, 3) := by decide +kernel
theorem dL_law_237 : decode cL_law 237 = .ok (.aload_n 2, 1) := by decide +kernel
theorem dL_law_238 : decode cL_law 238 = .ok (.aload_n 0, 1) := by decide +kernel
theorem dL_law_239 : decode cL_law 239 = .ok (.iload_n 3, 1) := by decide +kernel
theorem dL_law_240 : decode cL_law 240 = .ok (.iconst 1, 1) := by decide +kernel
theorem dL_law_241 : decode cL_law 241 = .ok (.iadd, 1) := by decide +kernel
theorem dL_law_242 : decode cL_law 242 = .ok (.iaload, 1) := by decide +kernel
theorem dL_law_243 : decode cL_law 243 = .ok (.aload_n 0, 1) := by decide +kernel
theorem dL_law_244 : decode cL_law 244 = .ok (.iload_n 3, 1) := by decide +kernel
theorem dL_law_245 : decode cL_law 245 = .ok (.iconst 2, 1) := by decide +kernel
theorem dL_law_246 : decode cL_law 246 = .ok (.iadd, 1) := by decide +kernel
theorem dL_law_247 : decode cL_law 247 = .ok (.iaload, 1) := by decide +kernel
theorem dL_law_248 : decode cL_law 248 = .ok (.invokevirtual 39, 3) := by decide +kernel
theorem dL_law_251 : decode cL_law 251 = .ok (.if_icmp .eq 417, 3) := by decide +kernel
theorem dL_law_254 : decode cL_law 254 = .ok (.iconst 0, 1) := by decide +kernel
theorem dL_law_255 : decode cL_law 255 = .ok (.ireturn, 1) := by decide +kernel
theorem dL_law_256 : decode cL_law 256 = .ok (.aload_n 1, 1) := by decide +kernel
theorem dL_law_257 : decode cL_law 257 = .ok (.aload_n 0, 1) := by decide +kernel
theorem dL_law_258 : decode cL_law 258 = .ok (.iload_n 3, 1) := by decide +kernel
theorem dL_law_259 : decode cL_law 259 = .ok (.iconst 1, 1) := by decide +kernel
theorem dL_law_260 : decode cL_law 260 = .ok (.iadd, 1) := by decide +kernel
theorem dL_law_261 : decode cL_law 261 = .ok (.iaload, 1) := by decide +kernel
theorem dL_law_262 : decode cL_law 262 = .ok (.aload_n 0, 1) := by decide +kernel
theorem dL_law_263 : decode cL_law 263 = .ok (.iload_n 3, 1) := by decide +kernel
theorem dL_law_264 : decode cL_law 264 = .ok (.iconst 2, 1) := by decide +kernel
theorem dL_law_265 : decode cL_law 265 = .ok (.iadd, 1) := by decide +kernel
theorem dL_law_266 : decode cL_law 266 = .ok (.iaload, 1) := by decide +kernel
theorem dL_law_267 : decode cL_law 267 = .ok (.invokevirtual 40, 3) := by decide +kernel
theorem dL_law_270 : decode cL_law 270 = .ok (.aload_n 2, 1) := by decide +kernel
theorem dL_law_271 : decode cL_law 271 = .ok (.aload_n 0, 1) := by decide +kernel
theorem dL_law_272 : decode cL_law 272 = .ok (.iload_n 3, 1) := by decide +kernel
theorem dL_law_273 : decode cL_law 273 = .ok (.iconst 1, 1) := by decide +kernel
theorem dL_law_274 : decode cL_law 274 = .ok (.iadd, 1) := by decide +kernel
theorem dL_law_275 : decode cL_law 275 = .ok (.iaload, 1) := by decide +kernel
theorem dL_law_276 : decode cL_law 276 = .ok (.aload_n 0, 1) := by decide +kernel
theorem dL_law_277 : decode cL_law 277 = .ok (.iload_n 3, 1) := by decide +kernel
theorem dL_law_278 : decode cL_law 278 = .ok (.iconst 2, 1) := by decide +kernel
theorem dL_law_279 : decode cL_law 279 = .ok (.iadd, 1) := by decide +kernel
theorem dL_law_280 : decode cL_law 280 = .ok (.iaload, 1) := by decide +kernel
theorem dL_law_281 : decode cL_law 281 = .ok (.invokevirtual 43, 3) := by decide +kernel
theorem dL_law_284 : decode cL_law 284 = .ok (.if_icmp .eq 384, 3) := by decide +kernel
theorem dL_law_287 : decode cL_law 287 = .ok (.iconst 0, 1) := by decide +kernel
theorem dL_law_288 : decode cL_law 288 = .ok (.ireturn, 1) := by decide +kernel
theorem dL_law_289 : decode cL_law 289 = .ok (.aload_n 1, 1) := by decide +kernel
theorem dL_law_290 : decode cL_law 290 = .ok (.aload_n 0, 1) := by decide +kernel
theorem dL_law_291 : decode cL_law 291 = .ok (.iload_n 3, 1) := by decide +kernel
theorem dL_law_292 : decode cL_law 292 = .ok (.iconst 1, 1) := by decide +kernel
theorem dL_law_293 : decode cL_law 293 = .ok (.iadd, 1) := by decide +kernel
theorem dL_law_294 : decode cL_law 294 = .ok (.iaload, 1) := by decide +kernel
theorem dL_law_295 : decode cL_law 295 = .ok (.invokevirtual 44, 3) := by decide +kernel
theorem dL_law_298 : decode cL_law 298 = .ok (.aload_n 2, 1) := by decide +kernel
theorem dL_law_299 : decode cL_law 299 = .ok (.aload_n 0, 1) := by decide +kernel
theorem dL_law_300 : decode cL_law 300 = .ok (.iload_n 3, 1) := by decide +kernel
theorem dL_law_301 : decode cL_law 301 = .ok (.iconst 1, 1) := by decide +kernel
theorem dL_law_302 : decode cL_law 302 = .ok (.iadd, 1) := by decide +kernel
theorem dL_law_303 : decode cL_law 303 = .ok (.iaload, 1) := by decide +kernel
theorem dL_law_304 : decode cL_law 304 = .ok (.invokevirtual 47, 3) := by decide +kernel
theorem dL_law_307 : decode cL_law 307 = .ok (.if_icmp .eq 361, 3) := by decide +kernel
theorem dL_law_310 : decode cL_law 310 = .ok (.iconst 0, 1) := by decide +kernel
theorem dL_law_311 : decode cL_law 311 = .ok (.ireturn, 1) := by decide +kernel
theorem dL_law_312 : decode cL_law 312 = .ok (.aload_n 1, 1) := by decide +kernel
theorem dL_law_313 : decode cL_law 313 = .ok (.aload_n 0, 1) := by decide +kernel
theorem dL_law_314 : decode cL_law 314 = .ok (.iload_n 3, 1) := by decide +kernel
theorem dL_law_315 : decode cL_law 315 = .ok (.iconst 1, 1) := by decide +kernel
theorem dL_law_316 : decode cL_law 316 = .ok (.iadd, 1) := by decide +kernel
theorem dL_law_317 : decode cL_law 317 = .ok (.iaload, 1) := by decide +kernel
theorem dL_law_318 : decode cL_law 318 = .ok (.aload_n 0, 1) := by decide +kernel
theorem dL_law_319 : decode cL_law 319 = .ok (.iload_n 3, 1) := by decide +kernel
theorem dL_law_320 : decode cL_law 320 = .ok (.iconst 2, 1) := by decide +kernel
theorem dL_law_321 : decode cL_law 321 = .ok (.iadd, 1) := by decide +kernel
theorem dL_law_322 : decode cL_law 322 = .ok (.iaload, 1) := by decide +kernel
theorem dL_law_323 : decode cL_law 323 = .ok (.invokevirtual 48, 3) := by decide +kernel
theorem dL_law_326 : decode cL_law 326 = .ok (.aload_n 2, 1) := by decide +kernel
theorem dL_law_327 : decode cL_law 327 = .ok (.aload_n 0, 1) := by decide +kernel
theorem dL_law_328 : decode cL_law 328 = .ok (.iload_n 3, 1) := by decide +kernel
theorem dL_law_329 : decode cL_law 329 = .ok (.iconst 1, 1) := by decide +kernel
theorem dL_law_330 : decode cL_law 330 = .ok (.iadd, 1) := by decide +kernel
theorem dL_law_331 : decode cL_law 331 = .ok (.iaload, 1) := by decide +kernel
theorem dL_law_332 : decode cL_law 332 = .ok (.aload_n 0, 1) := by decide +kernel
theorem dL_law_333 : decode cL_law 333 = .ok (.iload_n 3, 1) := by decide +kernel
theorem dL_law_334 : decode cL_law 334 = .ok (.iconst 2, 1) := by decide +kernel
theorem dL_law_335 : decode cL_law 335 = .ok (.iadd, 1) := by decide +kernel
theorem dL_law_336 : decode cL_law 336 = .ok (.iaload, 1) := by decide +kernel
theorem dL_law_337 : decode cL_law 337 = .ok (.invokevirtual 51, 3) := by decide +kernel
theorem dL_law_340 : decode cL_law 340 = .ok (.if_icmp .eq 328, 3) := by decide +kernel
theorem dL_law_343 : decode cL_law 343 = .ok (.iconst 0, 1) := by decide +kernel
theorem dL_law_344 : decode cL_law 344 = .ok (.ireturn, 1) := by decide +kernel
theorem dL_law_345 : decode cL_law 345 = .ok (.aload_n 1, 1) := by decide +kernel
theorem dL_law_346 : decode cL_law 346 = .ok (.aload_n 0, 1) := by decide +kernel
theorem dL_law_347 : decode cL_law 347 = .ok (.iload_n 3, 1) := by decide +kernel
theorem dL_law_348 : decode cL_law 348 = .ok (.iconst 1, 1) := by decide +kernel
theorem dL_law_349 : decode cL_law 349 = .ok (.iadd, 1) := by decide +kernel
theorem dL_law_350 : decode cL_law 350 = .ok (.iaload, 1) := by decide +kernel
theorem dL_law_351 : decode cL_law 351 = .ok (.aload_n 0, 1) := by decide +kernel
theorem dL_law_352 : decode cL_law 352 = .ok (.iload_n 3, 1) := by decide +kernel
theorem dL_law_353 : decode cL_law 353 = .ok (.iconst 2, 1) := by decide +kernel
theorem dL_law_354 : decode cL_law 354 = .ok (.iadd, 1) := by decide +kernel
theorem dL_law_355 : decode cL_law 355 = .ok (.iaload, 1) := by decide +kernel
theorem dL_law_356 : decode cL_law 356 = .ok (.aload_n 0, 1) := by decide +kernel
theorem dL_law_357 : decode cL_law 357 = .ok (.iload_n 3, 1) := by decide +kernel
theorem dL_law_358 : decode cL_law 358 = .ok (.iconst 3, 1) := by decide +kernel
theorem dL_law_359 : decode cL_law 359 = .ok (.iadd, 1) := by decide +kernel
theorem dL_law_360 : decode cL_law 360 = .ok (.iaload, 1) := by decide +kernel
theorem dL_law_361 : decode cL_law 361 = .ok (.aload_n 0, 1) := by decide +kernel
theorem dL_law_362 : decode cL_law 362 = .ok (.iload_n 3, 1) := by decide +kernel
theorem dL_law_363 : decode cL_law 363 = .ok (.iconst 4, 1) := by decide +kernel
theorem dL_law_364 : decode cL_law 364 = .ok (.iadd, 1) := by decide +kernel
theorem dL_law_365 : decode cL_law 365 = .ok (.iaload, 1) := by decide +kernel
theorem dL_law_366 : decode cL_law 366 = .ok (.invokevirtual 52, 3) := by decide +kernel
theorem dL_law_369 : decode cL_law 369 = .ok (.aload_n 2, 1) := by decide +kernel
theorem dL_law_370 : decode cL_law 370 = .ok (.aload_n 0, 1) := by decide +kernel
theorem dL_law_371 : decode cL_law 371 = .ok (.iload_n 3, 1) := by decide +kernel
theorem dL_law_372 : decode cL_law 372 = .ok (.iconst 1, 1) := by decide +kernel
theorem dL_law_373 : decode cL_law 373 = .ok (.iadd, 1) := by decide +kernel
theorem dL_law_374 : decode cL_law 374 = .ok (.iaload, 1) := by decide +kernel
theorem dL_law_375 : decode cL_law 375 = .ok (.aload_n 0, 1) := by decide +kernel
theorem dL_law_376 : decode cL_law 376 = .ok (.iload_n 3, 1) := by decide +kernel
theorem dL_law_377 : decode cL_law 377 = .ok (.iconst 2, 1) := by decide +kernel
theorem dL_law_378 : decode cL_law 378 = .ok (.iadd, 1) := by decide +kernel
theorem dL_law_379 : decode cL_law 379 = .ok (.iaload, 1) := by decide +kernel
theorem dL_law_380 : decode cL_law 380 = .ok (.aload_n 0, 1) := by decide +kernel
theorem dL_law_381 : decode cL_law 381 = .ok (.iload_n 3, 1) := by decide +kernel
theorem dL_law_382 : decode cL_law 382 = .ok (.iconst 3, 1) := by decide +kernel
theorem dL_law_383 : decode cL_law 383 = .ok (.iadd, 1) := by decide +kernel
theorem dL_law_384 : decode cL_law 384 = .ok (.iaload, 1) := by decide +kernel
theorem dL_law_385 : decode cL_law 385 = .ok (.aload_n 0, 1) := by decide +kernel
theorem dL_law_386 : decode cL_law 386 = .ok (.iload_n 3, 1) := by decide +kernel
theorem dL_law_387 : decode cL_law 387 = .ok (.iconst 4, 1) := by decide +kernel
theorem dL_law_388 : decode cL_law 388 = .ok (.iadd, 1) := by decide +kernel
theorem dL_law_389 : decode cL_law 389 = .ok (.iaload, 1) := by decide +kernel
theorem dL_law_390 : decode cL_law 390 = .ok (.invokevirtual 56, 3) := by decide +kernel
theorem dL_law_393 : decode cL_law 393 = .ok (.if_icmp .eq 275, 3) := by decide +kernel
theorem dL_law_396 : decode cL_law 396 = .ok (.iconst 0, 1) := by decide +kernel
theorem dL_law_397 : decode cL_law 397 = .ok (.ireturn, 1) := by decide +kernel
theorem dL_law_398 : decode cL_law 398 = .ok (.aload_n 1, 1) := by decide +kernel
theorem dL_law_399 : decode cL_law 399 = .ok (.aload_n 0, 1) := by decide +kernel
theorem dL_law_400 : decode cL_law 400 = .ok (.iload_n 3, 1) := by decide +kernel
theorem dL_law_401 : decode cL_law 401 = .ok (.iconst 1, 1) := by decide +kernel
theorem dL_law_402 : decode cL_law 402 = .ok (.iadd, 1) := by decide +kernel
theorem dL_law_403 : decode cL_law 403 = .ok (.iaload, 1) := by decide +kernel
theorem dL_law_404 : decode cL_law 404 = .ok (.aload_n 0, 1) := by decide +kernel
theorem dL_law_405 : decode cL_law 405 = .ok (.iload_n 3, 1) := by decide +kernel
theorem dL_law_406 : decode cL_law 406 = .ok (.iconst 2, 1) := by decide +kernel
theorem dL_law_407 : decode cL_law 407 = .ok (.iadd, 1) := by decide +kernel
theorem dL_law_408 : decode cL_law 408 = .ok (.iaload, 1) := by decide +kernel
theorem dL_law_409 : decode cL_law 409 = .ok (.invokevirtual 57, 3) := by decide +kernel
theorem dL_law_412 : decode cL_law 412 = .ok (.aload_n 2, 1) := by decide +kernel
theorem dL_law_413 : decode cL_law 413 = .ok (.aload_n 0, 1) := by decide +kernel
theorem dL_law_414 : decode cL_law 414 = .ok (.iload_n 3, 1) := by decide +kernel
theorem dL_law_415 : decode cL_law 415 = .ok (.iconst 1, 1) := by decide +kernel
theorem dL_law_416 : decode cL_law 416 = .ok (.iadd, 1) := by decide +kernel
theorem dL_law_417 : decode cL_law 417 = .ok (.iaload, 1) := by decide +kernel
theorem dL_law_418 : decode cL_law 418 = .ok (.aload_n 0, 1) := by decide +kernel
theorem dL_law_419 : decode cL_law 419 = .ok (.iload_n 3, 1) := by decide +kernel
theorem dL_law_420 : decode cL_law 420 = .ok (.iconst 2, 1) := by decide +kernel
theorem dL_law_421 : decode cL_law 421 = .ok (.iadd, 1) := by decide +kernel
theorem dL_law_422 : decode cL_law 422 = .ok (.iaload, 1) := by decide +kernel
theorem dL_law_423 : decode cL_law 423 = .ok (.invokevirtual 60, 3) := by decide +kernel
theorem dL_law_426 : decode cL_law 426 = .ok (.if_icmp .eq 242, 3) := by decide +kernel
theorem dL_law_429 : decode cL_law 429 = .ok (.iconst 0, 1) := by decide +kernel
theorem dL_law_430 : decode cL_law 430 = .ok (.ireturn, 1) := by decide +kernel
theorem dL_law_431 : decode cL_law 431 = .ok (.aload_n 1, 1) := by decide +kernel
theorem dL_law_432 : decode cL_law 432 = .ok (.aload_n 0, 1) := by decide +kernel
theorem dL_law_433 : decode cL_law 433 = .ok (.iload_n 3, 1) := by decide +kernel
theorem dL_law_434 : decode cL_law 434 = .ok (.iconst 1, 1) := by decide +kernel
theorem dL_law_435 : decode cL_law 435 = .ok (.iadd, 1) := by decide +kernel
theorem dL_law_436 : decode cL_law 436 = .ok (.iaload, 1) := by decide +kernel
theorem dL_law_437 : decode cL_law 437 = .ok (.aload_n 0, 1) := by decide +kernel
theorem dL_law_438 : decode cL_law 438 = .ok (.iload_n 3, 1) := by decide +kernel
theorem dL_law_439 : decode cL_law 439 = .ok (.iconst 2, 1) := by decide +kernel
theorem dL_law_440 : decode cL_law 440 = .ok (.iadd, 1) := by decide +kernel
theorem dL_law_441 : decode cL_law 441 = .ok (.iaload, 1) := by decide +kernel
theorem dL_law_442 : decode cL_law 442 = .ok (.invokevirtual 61, 3) := by decide +kernel
theorem dL_law_445 : decode cL_law 445 = .ok (.aload_n 2, 1) := by decide +kernel
theorem dL_law_446 : decode cL_law 446 = .ok (.aload_n 0, 1) := by decide +kernel
theorem dL_law_447 : decode cL_law 447 = .ok (.iload_n 3, 1) := by decide +kernel
theorem dL_law_448 : decode cL_law 448 = .ok (.iconst 1, 1) := by decide +kernel
theorem dL_law_449 : decode cL_law 449 = .ok (.iadd, 1) := by decide +kernel
theorem dL_law_450 : decode cL_law 450 = .ok (.iaload, 1) := by decide +kernel
theorem dL_law_451 : decode cL_law 451 = .ok (.aload_n 0, 1) := by decide +kernel
theorem dL_law_452 : decode cL_law 452 = .ok (.iload_n 3, 1) := by decide +kernel
theorem dL_law_453 : decode cL_law 453 = .ok (.iconst 2, 1) := by decide +kernel
theorem dL_law_454 : decode cL_law 454 = .ok (.iadd, 1) := by decide +kernel
theorem dL_law_455 : decode cL_law 455 = .ok (.iaload, 1) := by decide +kernel
theorem dL_law_456 : decode cL_law 456 = .ok (.invokevirtual 64, 3) := by decide +kernel
theorem dL_law_459 : decode cL_law 459 = .ok (.if_icmp .eq 209, 3) := by decide +kernel
theorem dL_law_462 : decode cL_law 462 = .ok (.iconst 0, 1) := by decide +kernel
theorem dL_law_463 : decode cL_law 463 = .ok (.ireturn, 1) := by decide +kernel
theorem dL_law_464 : decode cL_law 464 = .ok (.aload_n 1, 1) := by decide +kernel
theorem dL_law_465 : decode cL_law 465 = .ok (.aload_n 0, 1) := by decide +kernel
theorem dL_law_466 : decode cL_law 466 = .ok (.iload_n 3, 1) := by decide +kernel
theorem dL_law_467 : decode cL_law 467 = .ok (.iconst 1, 1) := by decide +kernel
theorem dL_law_468 : decode cL_law 468 = .ok (.iadd, 1) := by decide +kernel
theorem dL_law_469 : decode cL_law 469 = .ok (.iaload, 1) := by decide +kernel
theorem dL_law_470 : decode cL_law 470 = .ok (.aload_n 0, 1) := by decide +kernel
theorem dL_law_471 : decode cL_law 471 = .ok (.iload_n 3, 1) := by decide +kernel
theorem dL_law_472 : decode cL_law 472 = .ok (.iconst 2, 1) := by decide +kernel
theorem dL_law_473 : decode cL_law 473 = .ok (.iadd, 1) := by decide +kernel
theorem dL_law_474 : decode cL_law 474 = .ok (.iaload, 1) := by decide +kernel
theorem dL_law_475 : decode cL_law 475 = .ok (.invokevirtual 65, 3) := by decide +kernel
theorem dL_law_478 : decode cL_law 478 = .ok (.aload_n 2, 1) := by decide +kernel
theorem dL_law_479 : decode cL_law 479 = .ok (.aload_n 0, 1) := by decide +kernel
theorem dL_law_480 : decode cL_law 480 = .ok (.iload_n 3, 1) := by decide +kernel
theorem dL_law_481 : decode cL_law 481 = .ok (.iconst 1, 1) := by decide +kernel
theorem dL_law_482 : decode cL_law 482 = .ok (.iadd, 1) := by decide +kernel
theorem dL_law_483 : decode cL_law 483 = .ok (.iaload, 1) := by decide +kernel
theorem dL_law_484 : decode cL_law 484 = .ok (.aload_n 0, 1) := by decide +kernel
theorem dL_law_485 : decode cL_law 485 = .ok (.iload_n 3, 1) := by decide +kernel
theorem dL_law_486 : decode cL_law 486 = .ok (.iconst 2, 1) := by decide +kernel
theorem dL_law_487 : decode cL_law 487 = .ok (.iadd, 1) := by decide +kernel
theorem dL_law_488 : decode cL_law 488 = .ok (.iaload, 1) := by decide +kernel
theorem dL_law_489 : decode cL_law 489 = .ok (.invokevirtual 68, 3) := by decide +kernel
theorem dL_law_492 : decode cL_law 492 = .ok (.if_icmp .eq 176, 3) := by decide +kernel
theorem dL_law_495 : decode cL_law 495 = .ok (.iconst 0, 1) := by decide +kernel
theorem dL_law_496 : decode cL_law 496 = .ok (.ireturn, 1) := by decide +kernel
theorem dL_law_497 : decode cL_law 497 = .ok (.aload_n 1, 1) := by decide +kernel
theorem dL_law_498 : decode cL_law 498 = .ok (.aload_n 0, 1) := by decide +kernel
theorem dL_law_499 : decode cL_law 499 = .ok (.iload_n 3, 1) := by decide +kernel
theorem dL_law_500 : decode cL_law 500 = .ok (.iconst 1, 1) := by decide +kernel
theorem dL_law_501 : decode cL_law 501 = .ok (.iadd, 1) := by decide +kernel
theorem dL_law_502 : decode cL_law 502 = .ok (.iaload, 1) := by decide +kernel
theorem dL_law_503 : decode cL_law 503 = .ok (.invokevirtual 69, 3) := by decide +kernel
theorem dL_law_506 : decode cL_law 506 = .ok (.aload_n 2, 1) := by decide +kernel
theorem dL_law_507 : decode cL_law 507 = .ok (.aload_n 0, 1) := by decide +kernel
theorem dL_law_508 : decode cL_law 508 = .ok (.iload_n 3, 1) := by decide +kernel
theorem dL_law_509 : decode cL_law 509 = .ok (.iconst 1, 1) := by decide +kernel
theorem dL_law_510 : decode cL_law 510 = .ok (.iadd, 1) := by decide +kernel
theorem dL_law_511 : decode cL_law 511 = .ok (.iaload, 1) := by decide +kernel
theorem dL_law_512 : decode cL_law 512 = .ok (.invokevirtual 72, 3) := by decide +kernel
theorem dL_law_515 : decode cL_law 515 = .ok (.if_icmp .eq 153, 3) := by decide +kernel
theorem dL_law_518 : decode cL_law 518 = .ok (.iconst 0, 1) := by decide +kernel
theorem dL_law_519 : decode cL_law 519 = .ok (.ireturn, 1) := by decide +kernel
theorem dL_law_520 : decode cL_law 520 = .ok (.aload_n 1, 1) := by decide +kernel
theorem dL_law_521 : decode cL_law 521 = .ok (.aload_n 0, 1) := by decide +kernel
theorem dL_law_522 : decode cL_law 522 = .ok (.iload_n 3, 1) := by decide +kernel
theorem dL_law_523 : decode cL_law 523 = .ok (.iconst 1, 1) := by decide +kernel
theorem dL_law_524 : decode cL_law 524 = .ok (.iadd, 1) := by decide +kernel
theorem dL_law_525 : decode cL_law 525 = .ok (.iaload, 1) := by decide +kernel
theorem dL_law_526 : decode cL_law 526 = .ok (.invokevirtual 73, 3) := by decide +kernel
theorem dL_law_529 : decode cL_law 529 = .ok (.aload_n 2, 1) := by decide +kernel
theorem dL_law_530 : decode cL_law 530 = .ok (.aload_n 0, 1) := by decide +kernel
theorem dL_law_531 : decode cL_law 531 = .ok (.iload_n 3, 1) := by decide +kernel
theorem dL_law_532 : decode cL_law 532 = .ok (.iconst 1, 1) := by decide +kernel
theorem dL_law_533 : decode cL_law 533 = .ok (.iadd, 1) := by decide +kernel
theorem dL_law_534 : decode cL_law 534 = .ok (.iaload, 1) := by decide +kernel
theorem dL_law_535 : decode cL_law 535 = .ok (.invokevirtual 76, 3) := by decide +kernel
theorem dL_law_538 : decode cL_law 538 = .ok (.if_icmp .eq 130, 3) := by decide +kernel
theorem dL_law_541 : decode cL_law 541 = .ok (.iconst 0, 1) := by decide +kernel
theorem dL_law_542 : decode cL_law 542 = .ok (.ireturn, 1) := by decide +kernel
theorem dL_law_543 : decode cL_law 543 = .ok (.aload_n 1, 1) := by decide +kernel
theorem dL_law_544 : decode cL_law 544 = .ok (.invokevirtual 77, 3) := by decide +kernel
theorem dL_law_547 : decode cL_law 547 = .ok (.aload_n 2, 1) := by decide +kernel
theorem dL_law_548 : decode cL_law 548 = .ok (.invokevirtual 80, 3) := by decide +kernel
theorem dL_law_551 : decode cL_law 551 = .ok (.if_icmp .eq 117, 3) := by decide +kernel
theorem dL_law_554 : decode cL_law 554 = .ok (.iconst 0, 1) := by decide +kernel
theorem dL_law_555 : decode cL_law 555 = .ok (.ireturn, 1) := by decide +kernel
theorem dL_law_556 : decode cL_law 556 = .ok (.aload_n 1, 1) := by decide +kernel
theorem dL_law_557 : decode cL_law 557 = .ok (.aload_n 0, 1) := by decide +kernel
theorem dL_law_558 : decode cL_law 558 = .ok (.iload_n 3, 1) := by decide +kernel
theorem dL_law_559 : decode cL_law 559 = .ok (.iconst 1, 1) := by decide +kernel
theorem dL_law_560 : decode cL_law 560 = .ok (.iadd, 1) := by decide +kernel
theorem dL_law_561 : decode cL_law 561 = .ok (.iaload, 1) := by decide +kernel
theorem dL_law_562 : decode cL_law 562 = .ok (.aload_n 0, 1) := by decide +kernel
theorem dL_law_563 : decode cL_law 563 = .ok (.iload_n 3, 1) := by decide +kernel
theorem dL_law_564 : decode cL_law 564 = .ok (.iconst 2, 1) := by decide +kernel
theorem dL_law_565 : decode cL_law 565 = .ok (.iadd, 1) := by decide +kernel
theorem dL_law_566 : decode cL_law 566 = .ok (.iaload, 1) := by decide +kernel
theorem dL_law_567 : decode cL_law 567 = .ok (.invokevirtual 81, 3) := by decide +kernel
theorem dL_law_570 : decode cL_law 570 = .ok (.aload_n 2, 1) := by decide +kernel
theorem dL_law_571 : decode cL_law 571 = .ok (.aload_n 0, 1) := by decide +kernel
theorem dL_law_572 : decode cL_law 572 = .ok (.iload_n 3, 1) := by decide +kernel
theorem dL_law_573 : decode cL_law 573 = .ok (.iconst 1, 1) := by decide +kernel
theorem dL_law_574 : decode cL_law 574 = .ok (.iadd, 1) := by decide +kernel
theorem dL_law_575 : decode cL_law 575 = .ok (.iaload, 1) := by decide +kernel
theorem dL_law_576 : decode cL_law 576 = .ok (.aload_n 0, 1) := by decide +kernel
theorem dL_law_577 : decode cL_law 577 = .ok (.iload_n 3, 1) := by decide +kernel
theorem dL_law_578 : decode cL_law 578 = .ok (.iconst 2, 1) := by decide +kernel
theorem dL_law_579 : decode cL_law 579 = .ok (.iadd, 1) := by decide +kernel
theorem dL_law_580 : decode cL_law 580 = .ok (.iaload, 1) := by decide +kernel
theorem dL_law_581 : decode cL_law 581 = .ok (.invokevirtual 84, 3) := by decide +kernel
theorem dL_law_584 : decode cL_law 584 = .ok (.if_icmp .eq 84, 3) := by decide +kernel
theorem dL_law_587 : decode cL_law 587 = .ok (.iconst 0, 1) := by decide +kernel
theorem dL_law_588 : decode cL_law 588 = .ok (.ireturn, 1) := by decide +kernel
theorem dL_law_589 : decode cL_law 589 = .ok (.aload_n 1, 1) := by decide +kernel
theorem dL_law_590 : decode cL_law 590 = .ok (.aload_n 0, 1) := by decide +kernel
theorem dL_law_591 : decode cL_law 591 = .ok (.iload_n 3, 1) := by decide +kernel
theorem dL_law_592 : decode cL_law 592 = .ok (.iconst 1, 1) := by decide +kernel
theorem dL_law_593 : decode cL_law 593 = .ok (.iadd, 1) := by decide +kernel
theorem dL_law_594 : decode cL_law 594 = .ok (.iaload, 1) := by decide +kernel
theorem dL_law_595 : decode cL_law 595 = .ok (.invokevirtual 85, 3) := by decide +kernel
theorem dL_law_598 : decode cL_law 598 = .ok (.aload_n 2, 1) := by decide +kernel
theorem dL_law_599 : decode cL_law 599 = .ok (.aload_n 0, 1) := by decide +kernel
theorem dL_law_600 : decode cL_law 600 = .ok (.iload_n 3, 1) := by decide +kernel
theorem dL_law_601 : decode cL_law 601 = .ok (.iconst 1, 1) := by decide +kernel
theorem dL_law_602 : decode cL_law 602 = .ok (.iadd, 1) := by decide +kernel
theorem dL_law_603 : decode cL_law 603 = .ok (.iaload, 1) := by decide +kernel
theorem dL_law_604 : decode cL_law 604 = .ok (.invokevirtual 88, 3) := by decide +kernel
theorem dL_law_607 : decode cL_law 607 = .ok (.if_icmp .eq 61, 3) := by decide +kernel
theorem dL_law_610 : decode cL_law 610 = .ok (.iconst 0, 1) := by decide +kernel
theorem dL_law_611 : decode cL_law 611 = .ok (.ireturn, 1) := by decide +kernel
theorem dL_law_612 : decode cL_law 612 = .ok (.aload_n 1, 1) := by decide +kernel
theorem dL_law_613 : decode cL_law 613 = .ok (.aload_n 0, 1) := by decide +kernel
theorem dL_law_614 : decode cL_law 614 = .ok (.iload_n 3, 1) := by decide +kernel
theorem dL_law_615 : decode cL_law 615 = .ok (.iconst 1, 1) := by decide +kernel
theorem dL_law_616 : decode cL_law 616 = .ok (.iadd, 1) := by decide +kernel
theorem dL_law_617 : decode cL_law 617 = .ok (.iaload, 1) := by decide +kernel
theorem dL_law_618 : decode cL_law 618 = .ok (.aload_n 0, 1) := by decide +kernel
theorem dL_law_619 : decode cL_law 619 = .ok (.iload_n 3, 1) := by decide +kernel
theorem dL_law_620 : decode cL_law 620 = .ok (.iconst 2, 1) := by decide +kernel
theorem dL_law_621 : decode cL_law 621 = .ok (.iadd, 1) := by decide +kernel
theorem dL_law_622 : decode cL_law 622 = .ok (.iaload, 1) := by decide +kernel
theorem dL_law_623 : decode cL_law 623 = .ok (.invokevirtual 89, 3) := by decide +kernel
theorem dL_law_626 : decode cL_law 626 = .ok (.aload_n 2, 1) := by decide +kernel
theorem dL_law_627 : decode cL_law 627 = .ok (.aload_n 0, 1) := by decide +kernel
theorem dL_law_628 : decode cL_law 628 = .ok (.iload_n 3, 1) := by decide +kernel
theorem dL_law_629 : decode cL_law 629 = .ok (.iconst 1, 1) := by decide +kernel
theorem dL_law_630 : decode cL_law 630 = .ok (.iadd, 1) := by decide +kernel
theorem dL_law_631 : decode cL_law 631 = .ok (.iaload, 1) := by decide +kernel
theorem dL_law_632 : decode cL_law 632 = .ok (.aload_n 0, 1) := by decide +kernel
theorem dL_law_633 : decode cL_law 633 = .ok (.iload_n 3, 1) := by decide +kernel
theorem dL_law_634 : decode cL_law 634 = .ok (.iconst 2, 1) := by decide +kernel
theorem dL_law_635 : decode cL_law 635 = .ok (.iadd, 1) := by decide +kernel
theorem dL_law_636 : decode cL_law 636 = .ok (.iaload, 1) := by decide +kernel
theorem dL_law_637 : decode cL_law 637 = .ok (.invokevirtual 92, 3) := by decide +kernel
theorem dL_law_640 : decode cL_law 640 = .ok (.if_icmp .eq 28, 3) := by decide +kernel
theorem dL_law_643 : decode cL_law 643 = .ok (.iconst 0, 1) := by decide +kernel
theorem dL_law_644 : decode cL_law 644 = .ok (.ireturn, 1) := by decide +kernel
theorem dL_law_645 : decode cL_law 645 = .ok (.aload_n 1, 1) := by decide +kernel
theorem dL_law_646 : decode cL_law 646 = .ok (.aload_n 0, 1) := by decide +kernel
theorem dL_law_647 : decode cL_law 647 = .ok (.iload_n 3, 1) := by decide +kernel
theorem dL_law_648 : decode cL_law 648 = .ok (.iconst 1, 1) := by decide +kernel
theorem dL_law_649 : decode cL_law 649 = .ok (.iadd, 1) := by decide +kernel
theorem dL_law_650 : decode cL_law 650 = .ok (.iaload, 1) := by decide +kernel
theorem dL_law_651 : decode cL_law 651 = .ok (.invokevirtual 93, 3) := by decide +kernel
theorem dL_law_654 : decode cL_law 654 = .ok (.aload_n 2, 1) := by decide +kernel
theorem dL_law_655 : decode cL_law 655 = .ok (.aload_n 0, 1) := by decide +kernel
theorem dL_law_656 : decode cL_law 656 = .ok (.iload_n 3, 1) := by decide +kernel
theorem dL_law_657 : decode cL_law 657 = .ok (.iconst 1, 1) := by decide +kernel
theorem dL_law_658 : decode cL_law 658 = .ok (.iadd, 1) := by decide +kernel
theorem dL_law_659 : decode cL_law 659 = .ok (.iaload, 1) := by decide +kernel
theorem dL_law_660 : decode cL_law 660 = .ok (.invokevirtual 96, 3) := by decide +kernel
theorem dL_law_663 : decode cL_law 663 = .ok (.if_icmp .eq 5, 3) := by decide +kernel
theorem dL_law_666 : decode cL_law 666 = .ok (.iconst 0, 1) := by decide +kernel
theorem dL_law_667 : decode cL_law 667 = .ok (.ireturn, 1) := by decide +kernel
theorem dL_law_668 : decode cL_law 668 = .ok (.iinc 3 5, 3) := by decide +kernel
theorem dL_law_671 : decode cL_law 671 = .ok (.goto (-653), 3) := by decide +kernel
theorem dL_law_674 : decode cL_law 674 = .ok (.iconst 1, 1) := by decide +kernel
theorem dL_law_675 : decode cL_law 675 = .ok (.ireturn, 1) := by decide +kernel
end
section
/-! THE LIGHT MACHINE: a judgement over a store of numbers (cell, place) and a shape of cells, that hides the machine; one row an instruction. -/
abbrev lt_S : Type := Nat → Nat → Int32
abbrev lt_C : Type := (Nat × Nat) ⊕ (List (Option Nat) ⊕ (Nat × List (Option Value)))
abbrev lt_H : Type := List lt_C
abbrev lt_M : Type := MethodName × ByteArray × Nat × Option FieldType
abbrev lt_Q : Type := Option Int32 → lt_H → lt_S → Prop
def lt_tr (ad : Nat → Nat) (v : Value) : Value := match v with
  | .ref a => .ref (ad a)
  | v => v
def lt_sv (N : Nat) (v : Value) : Prop := match v with
  | .int _ => True
  | .null => True
  | .ref a => a < N
  | _ => False
theorem lt_sv.mono {N N' : Nat} {v : Value} (h : lt_sv N v) (hN : N ≤ N') : lt_sv N' v := by
  cases v <;> first | exact h | exact Nat.lt_of_lt_of_le h hN
theorem lt_sv.cat {N : Nat} {v : Value} (h : lt_sv N v) (ad : Nat → Nat) : (lt_tr ad v).category = 1 := by
  cases v <;> first | rfl | exact h.elim
theorem lt_sv.same {N : Nat} {v : Value} {ad ad' : Nat → Nat} (h : lt_sv N v) (he : ∀ a, a < N → ad' a = ad a) : lt_tr ad' v = lt_tr ad v := by
  cases v <;> first | rfl | exact congrArg Value.ref (he _ h)
def lt_sok (N : Nat) : List Value → Prop
  | [] => True
  | v :: r => lt_sv N v ∧ lt_sok N r
theorem lt_sok.mono {N N' : Nat} (hN : N ≤ N') : ∀ {st : List Value}, lt_sok N st → lt_sok N' st
  | [], _ => trivial
  | _ :: _, h => ⟨h.1.mono hN, h.2.mono hN⟩
theorem lt_sok.same {N : Nat} {ad ad' : Nat → Nat} (he : ∀ a, a < N → ad' a = ad a) : ∀ {st : List Value}, lt_sok N st → st.map (lt_tr ad') = st.map (lt_tr ad)
  | [], _ => rfl
  | _ :: _, h => by rw [List.map_cons, List.map_cons, h.1.same he, h.2.same he]
theorem lt_sok.cat {N : Nat} (ad : Nat → Nat) : ∀ {st : List Value}, lt_sok N st → ((st.map (lt_tr ad)).map fun v => v.category).sum = st.length
  | [], _ => rfl
  | _ :: _, h => by
    rw [List.map_cons, List.map_cons, List.sum_cons, h.1.cat ad, h.2.cat ad, List.length_cons]
    omega
theorem lt_sok.app {N : Nat} : ∀ {a b : List Value}, lt_sok N (a ++ b) ↔ lt_sok N a ∧ lt_sok N b
  | [], b => ⟨fun h => ⟨trivial, h⟩, fun h => h.2⟩
  | v :: a, b => ⟨fun h => ⟨⟨h.1, (lt_sok.app.mp h.2).1⟩, (lt_sok.app.mp h.2).2⟩, fun h => ⟨h.1.1, lt_sok.app.mpr ⟨h.1.2, h.2⟩⟩⟩
theorem lt_sok.rev {N : Nat} : ∀ {a : List Value}, lt_sok N a.reverse → lt_sok N a
  | [], _ => trivial
  | v :: a, h => by
    rw [List.reverse_cons] at h
    have h2 := lt_sok.app.mp h
    exact ⟨h2.2.1, lt_sok.rev h2.1⟩
/-- an object's fields: constants of the shape, numbers of the store -/
def lt_fs (ad : Nat → Nat) (f : Nat → Int32) : Nat → List (Option Value) → List Value
  | _, [] => []
  | k, some v :: r => lt_tr ad v :: lt_fs ad f (k + 1) r
  | k, none :: r => .int (f k) :: lt_fs ad f (k + 1) r
theorem lt_fs_get (ad : Nat → Nat) (f : Nat → Int32) : ∀ (fs : List (Option Value)) (k j : Nat), (lt_fs ad f k fs)[j]? = (fs[j]?).map (fun o => match o with | some v => lt_tr ad v | none => .int (f (k + j)))
  | [], k, j => by simp [lt_fs]
  | some v :: r, k, 0 => by simp [lt_fs]
  | none :: r, k, 0 => by simp [lt_fs]
  | some v :: r, k, j + 1 => by
    simp only [lt_fs, List.getElem?_cons_succ]
    rw [lt_fs_get ad f r (k + 1) j]
    congr 1; funext o; cases o <;> simp [Nat.add_assoc, Nat.add_comm 1 j]
  | none :: r, k, j + 1 => by
    simp only [lt_fs, List.getElem?_cons_succ]
    rw [lt_fs_get ad f r (k + 1) j]
    congr 1; funext o; cases o <;> simp [Nat.add_assoc, Nat.add_comm 1 j]
theorem lt_fs_len (ad : Nat → Nat) (f : Nat → Int32) : ∀ (fs : List (Option Value)) (k : Nat), (lt_fs ad f k fs).length = fs.length
  | [], k => rfl
  | some v :: r, k => by simp [lt_fs, lt_fs_len ad f r]
  | none :: r, k => by simp [lt_fs, lt_fs_len ad f r]
theorem lt_fs_out (ad : Nat → Nat) (f : Nat → Int32) (x : Int32) : ∀ (fs : List (Option Value)) (k i : Nat), i < k → lt_fs ad (upd f i x) k fs = lt_fs ad f k fs
  | [], k, i, _ => rfl
  | some v :: r, k, i, h => by simp only [lt_fs]; rw [lt_fs_out ad f x r (k + 1) i (by omega)]
  | none :: r, k, i, h => by
    simp only [lt_fs]
    rw [lt_fs_out ad f x r (k + 1) i (by omega), show upd f i x k = f k from if_neg (by omega)]
theorem lt_fs_set (ad : Nat → Nat) (f : Nat → Int32) (x : Int32) : ∀ (fs : List (Option Value)) (k j : Nat), fs[j]? = some none → (lt_fs ad f k fs).set j (.int x) = lt_fs ad (upd f (k + j) x) k fs
  | [], k, j, h => by simp at h
  | some v :: r, k, 0, h => by simp at h
  | none :: r, k, 0, h => by
    simp only [lt_fs, List.set_cons_zero, Nat.add_zero]
    rw [lt_fs_out ad f x r (k + 1) k (by omega), show upd f k x k = x from if_pos rfl]
  | some v :: r, k, j + 1, h => by
    simp only [lt_fs, List.set_cons_succ]
    rw [lt_fs_set ad f x r (k + 1) j (by simpa using h), show k + 1 + j = k + (j + 1) by omega]
  | none :: r, k, j + 1, h => by
    simp only [lt_fs, List.set_cons_succ]
    rw [lt_fs_set ad f x r (k + 1) j (by simpa using h), show k + 1 + j = k + (j + 1) by omega, show upd f (k + (j + 1)) x k = f k from if_neg (by omega)]
theorem lt_fs_setr (ad : Nat → Nat) (f : Nat → Int32) (v : Value) : ∀ (fs : List (Option Value)) (k j : Nat), (lt_fs ad f k fs).set j (lt_tr ad v) = lt_fs ad f k (fs.set j (some v))
  | [], k, j => by simp [lt_fs]
  | some w :: r, k, 0 => by simp [lt_fs]
  | none :: r, k, 0 => by simp [lt_fs]
  | some w :: r, k, j + 1 => by simp only [lt_fs, List.set_cons_succ]; rw [lt_fs_setr ad f v r (k + 1) j]
  | none :: r, k, j + 1 => by simp only [lt_fs, List.set_cons_succ]; rw [lt_fs_setr ad f v r (k + 1) j]
def lt_fok (N : Nat) (fs : List (Option Value)) : Prop := ∀ (k : Nat) (v : Value), fs[k]? = some (some v) → lt_sv N v
theorem lt_fs_same {N : Nat} {ad ad' : Nat → Nat} (he : ∀ a, a < N → ad' a = ad a) (f : Nat → Int32) : ∀ (fs : List (Option Value)) (k : Nat), lt_fok N fs → lt_fs ad' f k fs = lt_fs ad f k fs
  | [], k, _ => rfl
  | some v :: r, k, h => by
    simp only [lt_fs]
    rw [(h 0 v rfl).same he, lt_fs_same he f r (k + 1) (fun j w hj => h (j + 1) w (by simpa using hj))]
  | none :: r, k, h => by
    simp only [lt_fs]
    rw [lt_fs_same he f r (k + 1) (fun j w hj => h (j + 1) w (by simpa using hj))]
/-- a cell out of its shape and the store's row -/
def lt_cell (dA : Nat → ClassId) (ad : Nat → Nat) (c : lt_C) (f : Nat → Int32) : va_E := match c with
  | .inl q => .inl (dA q.1, q.2, .inl f)
  | .inr (.inl rs) => .inl (dA 3, rs.length, .inr (.inr (.inr (.inr (fun k => (rs.getD k none).map ad)))))
  | .inr (.inr q) => .inr (q.1, lt_fs ad f 0 q.2)
def lt_cok (N : Nat) (c : lt_C) : Prop := match c with
  | .inl _ => True
  | .inr (.inl rs) => ∀ (k a : Nat), rs.getD k none = some a → a < N
  | .inr (.inr q) => lt_fok N q.2
def lt_hok (N : Nat) (sh : lt_H) : Prop := ∀ (k : Nat) (c : lt_C), sh[k]? = some c → lt_cok N c
theorem lt_cok.mono {N N' : Nat} {c : lt_C} (hN : N ≤ N') (h : lt_cok N c) : lt_cok N' c := by
  rcases c with q | rs | q
  · exact trivial
  · exact fun k a e => Nat.lt_of_lt_of_le (h k a e) hN
  · exact fun k v e => (h k v e).mono hN
theorem lt_cell_same {N : Nat} {ad ad' : Nat → Nat} (he : ∀ a, a < N → ad' a = ad a) (dA : Nat → ClassId) (c : lt_C) (f : Nat → Int32) (h : lt_cok N c) : lt_cell dA ad' c f = lt_cell dA ad c f := by
  rcases c with q | rs | q
  · rfl
  · show Sum.inl (dA 3, rs.length, Sum.inr (Sum.inr (Sum.inr (Sum.inr _)))) = Sum.inl (dA 3, rs.length, Sum.inr (Sum.inr (Sum.inr (Sum.inr _))))
    congr 7
    funext k
    cases e : rs.getD k none with
    | none => rfl
    | some a => exact congrArg some (he a (h k a e))
  · show Sum.inr (q.1, lt_fs ad' f 0 q.2) = Sum.inr (q.1, lt_fs ad f 0 q.2)
    rw [lt_fs_same he f q.2 0 h]
def lt_w (dA : Nat → ClassId) (ad : Nat → Nat) (σ : lt_S) : Nat → lt_H → va_W
  | _, [] => []
  | k, c :: r => (ad k, lt_cell dA ad c (σ k)) :: lt_w dA ad σ (k + 1) r
theorem lt_w_get (dA : Nat → ClassId) (ad : Nat → Nat) (σ : lt_S) : ∀ (sh : lt_H) (k i : Nat), (lt_w dA ad σ k sh)[i]? = (sh[i]?).map (fun c => (ad (k + i), lt_cell dA ad c (σ (k + i))))
  | [], k, i => by simp [lt_w]
  | c :: r, k, 0 => by simp [lt_w]
  | c :: r, k, i + 1 => by
    simp only [lt_w, List.getElem?_cons_succ]
    rw [lt_w_get dA ad σ r (k + 1) i, show k + 1 + i = k + (i + 1) by omega]
theorem lt_w_len (dA : Nat → ClassId) (ad : Nat → Nat) (σ : lt_S) : ∀ (sh : lt_H) (k : Nat), (lt_w dA ad σ k sh).length = sh.length
  | [], k => rfl
  | c :: r, k => by simp [lt_w, lt_w_len dA ad σ r]
theorem lt_w_ext {dA : Nat → ClassId} {ad : Nat → Nat} {σ σ' : lt_S} : ∀ (sh : lt_H) (k : Nat), (∀ b, k ≤ b → b < k + sh.length → σ b = σ' b) → lt_w dA ad σ k sh = lt_w dA ad σ' k sh
  | [], k, _ => rfl
  | c :: r, k, h => by
    simp only [lt_w]
    rw [h k (Nat.le_refl _) (by simp), lt_w_ext r (k + 1) (fun b h1 h2 => h b (by omega) (by simp; omega))]
theorem lt_w_set {dA : Nat → ClassId} {ad : Nat → Nat} {σ : lt_S} (c' : lt_C) (f : Nat → Int32) : ∀ (sh : lt_H) (k i : Nat), (lt_w dA ad σ k sh).set i (ad (k + i), lt_cell dA ad c' f) = lt_w dA ad (fun b => if b = k + i then f else σ b) k (sh.set i c')
  | [], k, i => by simp [lt_w]
  | c :: r, k, 0 => by
    simp only [lt_w, List.set_cons_zero, Nat.add_zero, if_pos]
    congr 1
    exact lt_w_ext r (k + 1) (fun b h1 h2 => (if_neg (by omega)).symm)
  | c :: r, k, i + 1 => by
    simp only [lt_w, List.set_cons_succ]
    rw [show k + (i + 1) = k + 1 + i by omega, lt_w_set c' f r (k + 1) i, if_neg (by omega)]
theorem lt_w_push {dA : Nat → ClassId} {ad : Nat → Nat} {σ : lt_S} (c : lt_C) : ∀ (sh : lt_H) (k : Nat), lt_w dA ad σ k (sh ++ [c]) = lt_w dA ad σ k sh ++ [(ad (k + sh.length), lt_cell dA ad c (σ (k + sh.length)))]
  | [], k => by simp [lt_w]
  | a :: r, k => by
    simp only [List.cons_append, lt_w]
    rw [lt_w_push c r (k + 1), List.length_cons, show k + 1 + r.length = k + (r.length + 1) by omega]
theorem lt_w_same {N : Nat} {ad ad' : Nat → Nat} (he : ∀ a, a < N → ad' a = ad a) {dA : Nat → ClassId} {σ : lt_S} : ∀ (sh : lt_H) (k : Nat), k + sh.length ≤ N → lt_hok N sh → lt_w dA ad' σ k sh = lt_w dA ad σ k sh
  | [], k, _, _ => rfl
  | c :: r, k, hk, h => by
    simp only [lt_w]
    simp only [List.length_cons] at hk
    rw [he k (by omega), lt_cell_same he dA c (σ k) (h 0 c rfl), lt_w_same he r (k + 1) (by omega) (fun j x hj => h (j + 1) x (by simpa using hj))]
/-- the store with one number changed -/
def lt_up (σ : lt_S) (a k : Nat) (x : Int32) : lt_S := fun b => if b = a then upd (σ a) k x else σ b
/-- the store with one row changed -/
def lt_ur (σ : lt_S) (a : Nat) (f : Nat → Int32) : lt_S := fun b => if b = a then f else σ b
def lt_tys (dA : Nat → ClassId) : List (ClassId × FieldType) := [(dA 0, .int), (dA 1, .char), (dA 2, .boolean), (dA 3, .object RX2)]
def lt_A (ad : Nat → Nat) (n sz : Nat) : Nat → Prop := fun q => (∃ a, a < n ∧ ad (10 + a) = q) ∨ sz ≤ q
end
section
/-! the judgement: what the machine's context is, and what it means that the machine goes on from a place -/
def lt_t0 : String := "yard 2,3;path 0,0,1;path 0,1,1,2;path 0,2,1,2,3;path 1,0,4,5;path 1,1,4;path 1,2,3;come 0,1,10,20,1;come 1,0,12,18,9;come 0,0,15,25,1;come 1,1,22,30,0;span 1;"
def lt_t1 : String := "yard path come pair span "
def lt_byt : List (List Int32) := [lt_t0.toList.map (fun c => Int32.ofNat c.toNat), lt_t1.toList.map (fun c => Int32.ofNat c.toNat)]
def lt_len : List Nat := [162, 25]
/-- what lies outside the world: 0 the script, 1 and 2 the texts, 3 and 4 their bytes, 5 a formatter of the JDK's (or null) -/
def lt_X (ad : Nat → Nat) (xl : Nat) (xs : Nat → Int32) (A : Nat → Prop) (U : State) (H : Heap) : Prop :=
  va_X (ad 0) xl xs U H ∧ ad 0 < H.size ∧ ¬ A (ad 0) ∧ vk_S 2 lt_len lt_byt (fun i => ad (1 + i)) (fun i => ad (3 + i)) A U H ∧ vk_R RX7 67 lt_t0 (ad 1) U ∧ vk_R RX3 55 lt_t1 (ad 2) U ∧ va_Z RJ0 "COMPACT_STRINGS" "Z" (.int 1) A U H ∧
  (va_Z RJ3 "SIOOBE_FORMATTER" "Ljava/util/function/BiFunction;" .null A U H ∨ va_Z RJ3 "SIOOBE_FORMATTER" "Ljava/util/function/BiFunction;" (.ref (ad 5)) A U H)
def lt_Cx (M : lt_M) (d mc ms : Nat) (R : Room) (p : Program) (s : State) (m : MethodId) (args : Array Value) (meth : Method) (c : Code) (D : va_G) (dA : Nat → ClassId) (A : Nat → Prop) (ad0 : Nat → Nat) (xl : Nat) (xs : Nat → Int32) : Prop :=
  CallFix p m c M.2.1 M.2.2.1 s args lw_tbl M.1.cls ∧ meth.sig.returnType = M.2.2.2 ∧ meth.locks = false ∧ (M.1.name = "<init>" → meth.name = "<init>") ∧ va_K D vwCl (lt_tys dA) s ∧ (∀ q, s.heap.size ≤ q → A q) ∧ (d ≤ R.frames ∧ 40 * d ≤ R.locals ∧ mc ≤ R.cells ∧ ms ≤ R.slots) ∧ lt_X ad0 xl xs A s s.heap
def lt_Wd (D : va_G) (dA : Nat → ClassId) (ad0 ad : Nat → Nat) (A : Nat → Prop) (N0 : Nat) (sh : lt_H) (σ : lt_S) (s : State) (H : Heap) (locs : List Loc) : Prop :=
  (∀ a, a < 10 + N0 → ad a = ad0 a) ∧ N0 ≤ sh.length ∧ lt_hok (10 + sh.length) sh ∧ va_P D vwCl (lt_w dA ad σ 10 sh) H ∧ va_D A (lt_w dA ad σ 10 sh) ∧ va_S A s.heap H locs
def lt_lv (ad : Nat → Nat) (ls : Array Slot) (nL N : Nat) (L : List (Option Value)) : Prop :=
  (∃ lv, lv_has ls nL lv ∧ ∀ (i : Nat) (v : Value), L[i]? = some (some v) → (i, lt_tr ad v) ∈ lv) ∧ (∀ (i : Nat) (v : Value), L[i]? = some (some v) → lt_sv N v)
def lt_ret (l : Launch) (mc ms : Nat) (M : lt_M) (Q : lt_Q) (p : Program) (e : Env) (R : Room) (s : State) (m : MethodId) (args : Array Value) (below : List Frame) (meth : Method) (c : Code) (Z : State → Prop) (D : va_G) (dA : Nat → ClassId) (ad0 : Nat → Nat) (A : Nat → Prop) (N0 : Nat) : Prop :=
  ∀ (r : Option Int32) (sh' : lt_H) (σ' : lt_S) (ad' : Nat → Nat) (H' : Heap) (locs' : List Loc) (pc' : Nat) (ls' : Array Slot), Q r sh' σ' → lt_Wd D dA ad0 ad' A N0 sh' σ' s H' locs' →
    (match r with
      | none => M.2.2.2 = none ∧ decode M.2.1 pc' = .ok (.return_, 1)
      | some x => ∃ ty, M.2.2.2 = some ty ∧ narrow ty (.int x) = .int x ∧ decode M.2.1 pc' = .ok (.ireturn, 1)) →
    W p l e R s m args below meth c H' locs' mc ms Z (F0 m pc' ls' (r.toList.map Value.int))
def lt_G (l : Launch) (d mc ms : Nat) (M : lt_M) (ck cn : Nat) (sh : lt_H) (σ : lt_S) (pc : Nat) (L : List (Option Value)) (st : List Value) (Q : lt_Q) : Prop :=
  ∀ (p : Program) (e : Env) (R : Room) (s : State) (m : MethodId) (args : Array Value) (below : List Frame) (meth : Method) (c : Code) (H : Heap) (locs : List Loc) (Z : State → Prop) (D : va_G) (dA : Nat → ClassId) (ad0 ad : Nat → Nat) (A : Nat → Prop) (N0 xl : Nat) (xs : Nat → Int32) (ls : Array Slot),
    lt_Cx M d mc ms R p s m args meth c D dA A ad0 xl xs → lt_Wd D dA ad0 ad A N0 sh σ s H locs → lt_lv ad ls M.2.2.1 (10 + sh.length) L → lt_sok (10 + sh.length) st → lt_ret l mc ms M Q p e R s m args below meth c Z D dA ad0 A N0 →
    W p l e R s m args below meth c H locs ck cn Z (F0 m pc ls (st.map (lt_tr ad)))
/-! a method's contract in these words -/
def lt_ws (M : lt_M) : List Cond := Cond.code M.1 M.2.1 M.2.2.1 M.2.2.2 :: lw_tbl
def lt_rm (d mc ms : Nat) : Jvm.Room := { frames := d, cells := mc, slots := ms, locals := 40 * d }
def lt_pre (D : va_G) (dA : Nat → ClassId) (ad : Nat → Nat) (xl : Nat) (xs : Nat → Int32) (sz : Nat) (sh : lt_H) (σ : lt_S) (U : State) : Prop :=
  U.heap.size = sz ∧ va_P D vwCl (lt_w dA ad σ 10 sh) U.heap ∧ va_K D vwCl (lt_tys dA) U ∧ va_D (fun _ => True) (lt_w dA ad σ 10 sh) ∧ lt_hok (10 + sh.length) sh ∧ lt_X ad xl xs (lt_A ad sh.length sz) U U.heap
def lt_post (Q : lt_Q) (D : va_G) (dA : Nat → ClassId) (ad : Nat → Nat) (n : Nat) (A : Nat → Prop) : Array Value → State → Outcome → State → Prop := fun _ st o t =>
  (∃ (r : Option Int32) (sh' : lt_H) (σ' : lt_S) (ad' : Nat → Nat), Q r sh' σ' ∧ o = .returned (r.map Value.int) ∧ (∀ a, a < 10 + n → ad' a = ad a) ∧ n ≤ sh'.length ∧ lt_hok (10 + sh'.length) sh' ∧ va_P D vwCl (lt_w dA ad' σ' 10 sh') t.heap ∧ va_D A (lt_w dA ad' σ' 10 sh')) ∧ va_F A st t
def lt_R (l : Launch) (d mc ms : Nat) (M : lt_M) (sh : lt_H) (σ : lt_S) (as : List Value) (Q : lt_Q) : Prop :=
  ∀ (D : va_G) (dA : Nat → ClassId) (ad : Nat → Nat) (xl : Nat) (xs : Nat → Int32) (sz : Nat), lt_sok (10 + sh.length) as →
    Met l M.1 (lt_ws M) (lt_rm d mc ms) (va_Pc (as.map (lt_tr ad)) (lt_pre D dA ad xl xs sz sh σ)) (lt_post Q D dA ad sh.length (lt_A ad sh.length sz)) mc ms (lt_A ad sh.length sz)
theorem lt_entry (ad : Nat → Nat) {N : Nat} : ∀ (as : List Value) (i j : Nat) (v : Value), lt_sok N as → as[j]? = some v → (i + j, lt_tr ad v) ∈ lv_args i (as.map (lt_tr ad))
  | [], i, j, v, _, h => by simp at h
  | a :: r, i, 0, v, hs, h => by
    simp only [List.getElem?_cons_zero, Option.some.injEq] at h
    subst h
    simp [lv_args]
  | a :: r, i, j + 1, v, hs, h => by
    simp only [List.getElem?_cons_succ] at h
    have := lt_entry ad r (i + 1) j v hs.2 h
    simp only [List.map_cons, lv_args, List.mem_cons]
    right
    rw [if_neg (by rw [hs.1.cat ad]; decide), show i + (j + 1) = i + 1 + j by omega]
    exact this
theorem lt_sl {N : Nat} (ad : Nat → Nat) : ∀ (as : List Value), lt_sok N as → (lg_sl (as.map (lt_tr ad))).length = as.length
  | [], _ => rfl
  | a :: r, h => by
    have := lt_sl ad r h.2
    unfold lg_sl at this ⊢
    rw [List.map_cons, List.flatMap_cons, if_neg (by rw [h.1.cat ad]; decide), List.length_append, this]
    simp
    omega
theorem lt_D_self {ad : Nat → Nat} {A : Nat → Prop} {dA : Nat → ClassId} {σ : lt_S} {sh : lt_H} {sz : Nat} (h : va_D A (lt_w dA ad σ 10 sh)) : va_D (lt_A ad sh.length sz) (lt_w dA ad σ 10 sh) := by
  refine ⟨h.1, fun k q hk => Or.inl ?_⟩
  rw [lt_w_get] at hk
  cases e : sh[k]? with
  | none => rw [e] at hk; cases hk
  | some c =>
    rw [e] at hk
    cases hk
    exact ⟨k, (List.getElem?_eq_some_iff.mp e).1, rfl⟩
theorem lt_R.of {l : Launch} {d mc ms : Nat} {M : lt_M} {sh : lt_H} {σ : lt_S} {as : List Value} {Q : lt_Q} (L : List (Option Value)) (hy : plainName M.1.cls = true) (hL : as.map some ++ List.replicate (M.2.2.1 - as.length) none = L) (hlen : as.length ≤ M.2.2.1) (g : lt_G l d mc ms M 0 0 sh σ 0 L [] Q) : lt_R l d mc ms M sh σ as Q := by
  intro D dA ad xl xs sz hsok
  refine Met.ofW (cc := M.2.1) (maxL := M.2.2.1) (ret := M.2.2.2) hy rfl ?_
  intro p e s m args below meth c s₁ B hml hv
  obtain ⟨rfl, hsz, hP, hK, hD0, hok, hX⟩ := hv
  have hts0 := atoms_spec (ws := lt_ws M) B.pre
  have hts : ∀ w ∈ lw_tbl, w.before (as.map (lt_tr ad)).toArray s = true := fun w hw => hts0 w (List.mem_cons_of_mem _ hw)
  have hown : s.vm.findClass M.1.cls = some m.cls := findClass_of_methodNamed B.named
  subst hsz
  have hD := lt_D_self (sz := s.heap.size) hD0
  have hS : va_S (lt_A ad sh.length s.heap.size) s.heap s.heap [] := va_S.rf
  have hl := lv_entry (as.map (lt_tr ad)) (n := M.2.2.1) (by rw [lt_sl ad as hsok]; exact hlen)
  rw [lg_entry_eq]
  generalize (lg_sl (as.map (lt_tr ad)) ++ List.replicate (M.2.2.1 - (lg_sl (as.map (lt_tr ad))).length) Slot.unset).toArray = ls at hl ⊢
  have hLv : ∀ (i : Nat) (v : Value), L[i]? = some (some v) → as[i]? = some v := by
    intro i v h
    rw [← hL] at h
    by_cases hi : i < as.length
    · rw [List.getElem?_append_left (by simpa using hi), List.getElem?_map] at h
      cases e : as[i]? with
      | none => rw [e] at h; cases h
      | some w => rw [e] at h; cases h; rfl
    · rw [List.getElem?_append_right (by simpa using hi)] at h
      have := List.mem_of_getElem? h
      simp at this
  have hsv : ∀ (as : List Value), lt_sok (10 + sh.length) as → ∀ (i : Nat) (v : Value), as[i]? = some v → lt_sv (10 + sh.length) v := by
    intro as
    induction as with
    | nil => intro _ i v h; simp at h
    | cons a r ih =>
      intro hs i v h
      cases i with
      | zero => simp only [List.getElem?_cons_zero, Option.some.injEq] at h; subst h; exact hs.1
      | succ i => exact ih hs.2 i v (by simpa using h)
  refine g p e _ s m _ below meth c s.heap [] _ D dA ad ad (lt_A ad sh.length s.heap.size) sh.length xl xs ls ⟨⟨B.exec, B.bytes, hml, hown, hts⟩, B.returns, B.notSynchronized, ?_, hK, fun q h => Or.inr h, ⟨Nat.le_refl _, Nat.le_refl _, Nat.le_refl _, Nat.le_refl _⟩, hX⟩ ⟨fun _ _ => rfl, Nat.le_refl _, hok, hP, hD, hS⟩ ⟨⟨_, hl, fun i v h => ?_⟩, fun i v h => hsv as hsok i v (hLv i v h)⟩ trivial ?_
  · intro hn
    rw [(name_of_methodNamed B.named B.method).1]
    exact hn
  · have := lt_entry ad as 0 i v hsok (hLv i v h)
    rwa [Nat.zero_add] at this
  · intro r sh' σ' ad' H' locs' pc' ls' hQ hWd hr
    obtain ⟨h1, h2, h3, h4, h5, h6⟩ := hWd
    cases r with
    | none =>
      obtain ⟨hn, hdg⟩ := hr
      exact W.vret B.exec B.bytes (B.returns.trans hn) (fun t ht _ => ⟨⟨none, sh', σ', ad', hQ, rfl, h1, h2, h3, by rw [ht]; exact h4, h5⟩, h6.F ht⟩) h6.2.2 hdg B.notSynchronized
    | some x =>
      obtain ⟨ty, hn, hnar, hdg⟩ := hr
      exact W.zret B.exec B.bytes (B.returns.trans hn) hnar (fun t ht _ => ⟨⟨some x, sh', σ', ad', hQ, rfl, h1, h2, h3, by rw [ht]; exact h4, h5⟩, h6.F ht⟩) h6.2.2 hdg B.notSynchronized
end
section
section LT1
variable {l : Launch} {d mc ms : Nat} {M : lt_M} {ck cn : Nat} {sh : lt_H} {σ : lt_S} {pc : Nat} {L : List (Option Value)} {st : List Value} {Q : lt_Q}
theorem g_iconst {n : Int} {v : Int32} {pc2 : Nat} (hd : decode M.2.1 pc = .ok (.iconst n, 1)) (hv : Int32.ofInt n = v) (he : pc + 1 = pc2) (k : lt_G l d mc ms M ck cn sh σ pc2 L (.int v :: st) Q) : lt_G l d mc ms M ck cn sh σ pc L st Q := by
  subst he
  intro p e R s m args below meth c H locs Z D dA ad0 ad A N0 xl xs ls C Wd hl ho hr
  exact lv_iconst C.1.1 C.1.2.1 hd hv (k p e R s m args below meth c H locs Z D dA ad0 ad A N0 xl xs ls C Wd hl ⟨trivial, ho⟩ hr)
theorem g_bipush {n : Int} {v : Int32} {pc2 : Nat} (hd : decode M.2.1 pc = .ok (.bipush n, 2)) (hv : (Int8.ofInt n).toInt32 = v) (he : pc + 2 = pc2) (k : lt_G l d mc ms M ck cn sh σ pc2 L (.int v :: st) Q) : lt_G l d mc ms M ck cn sh σ pc L st Q := by
  subst he
  intro p e R s m args below meth c H locs Z D dA ad0 ad A N0 xl xs ls C Wd hl ho hr
  exact lv_bipush C.1.1 C.1.2.1 hd hv (k p e R s m args below meth c H locs Z D dA ad0 ad A N0 xl xs ls C Wd hl ⟨trivial, ho⟩ hr)
theorem g_sipush {n : Int} {v : Int32} {pc2 : Nat} (hd : decode M.2.1 pc = .ok (.sipush n, 3)) (hv : (Int16.ofInt n).toInt32 = v) (he : pc + 3 = pc2) (k : lt_G l d mc ms M ck cn sh σ pc2 L (.int v :: st) Q) : lt_G l d mc ms M ck cn sh σ pc L st Q := by
  subst he
  intro p e R s m args below meth c H locs Z D dA ad0 ad A N0 xl xs ls C Wd hl ho hr
  exact lv_sipush C.1.1 C.1.2.1 hd hv (k p e R s m args below meth c H locs Z D dA ad0 ad A N0 xl xs ls C Wd hl ⟨trivial, ho⟩ hr)
theorem g_iadd {x y : Int32} {pc2 : Nat} (hd : decode M.2.1 pc = .ok (.iadd, 1)) (he : pc + 1 = pc2) (k : lt_G l d mc ms M ck cn sh σ pc2 L (.int (x + y) :: st) Q) : lt_G l d mc ms M ck cn sh σ pc L (.int y :: .int x :: st) Q := by
  subst he
  intro p e R s m args below meth c H locs Z D dA ad0 ad A N0 xl xs ls C Wd hl ho hr
  exact lv_iadd C.1.1 C.1.2.1 hd (k p e R s m args below meth c H locs Z D dA ad0 ad A N0 xl xs ls C Wd hl ⟨trivial, ho.2.2⟩ hr)
theorem g_isub {x y : Int32} {pc2 : Nat} (hd : decode M.2.1 pc = .ok (.isub, 1)) (he : pc + 1 = pc2) (k : lt_G l d mc ms M ck cn sh σ pc2 L (.int (x - y) :: st) Q) : lt_G l d mc ms M ck cn sh σ pc L (.int y :: .int x :: st) Q := by
  subst he
  intro p e R s m args below meth c H locs Z D dA ad0 ad A N0 xl xs ls C Wd hl ho hr
  exact lv_isub C.1.1 C.1.2.1 hd (k p e R s m args below meth c H locs Z D dA ad0 ad A N0 xl xs ls C Wd hl ⟨trivial, ho.2.2⟩ hr)
theorem g_imul {x y : Int32} {pc2 : Nat} (hd : decode M.2.1 pc = .ok (.imul, 1)) (he : pc + 1 = pc2) (k : lt_G l d mc ms M ck cn sh σ pc2 L (.int (x * y) :: st) Q) : lt_G l d mc ms M ck cn sh σ pc L (.int y :: .int x :: st) Q := by
  subst he
  intro p e R s m args below meth c H locs Z D dA ad0 ad A N0 xl xs ls C Wd hl ho hr
  exact lv_imul C.1.1 C.1.2.1 hd (k p e R s m args below meth c H locs Z D dA ad0 ad A N0 xl xs ls C Wd hl ⟨trivial, ho.2.2⟩ hr)
theorem g_iand {x y : Int32} {pc2 : Nat} (hd : decode M.2.1 pc = .ok (.iand, 1)) (he : pc + 1 = pc2) (k : lt_G l d mc ms M ck cn sh σ pc2 L (.int (x &&& y) :: st) Q) : lt_G l d mc ms M ck cn sh σ pc L (.int y :: .int x :: st) Q := by
  subst he
  intro p e R s m args below meth c H locs Z D dA ad0 ad A N0 xl xs ls C Wd hl ho hr
  exact lv_iand C.1.1 C.1.2.1 hd (k p e R s m args below meth c H locs Z D dA ad0 ad A N0 xl xs ls C Wd hl ⟨trivial, ho.2.2⟩ hr)
theorem g_ior {x y : Int32} {pc2 : Nat} (hd : decode M.2.1 pc = .ok (.ior, 1)) (he : pc + 1 = pc2) (k : lt_G l d mc ms M ck cn sh σ pc2 L (.int (x ||| y) :: st) Q) : lt_G l d mc ms M ck cn sh σ pc L (.int y :: .int x :: st) Q := by
  subst he
  intro p e R s m args below meth c H locs Z D dA ad0 ad A N0 xl xs ls C Wd hl ho hr
  exact lv_ior C.1.1 C.1.2.1 hd (k p e R s m args below meth c H locs Z D dA ad0 ad A N0 xl xs ls C Wd hl ⟨trivial, ho.2.2⟩ hr)
theorem g_ishl {x y : Int32} {pc2 : Nat} (hd : decode M.2.1 pc = .ok (.ishl, 1)) (he : pc + 1 = pc2) (k : lt_G l d mc ms M ck cn sh σ pc2 L (.int (x <<< (y &&& 31)) :: st) Q) : lt_G l d mc ms M ck cn sh σ pc L (.int y :: .int x :: st) Q := by
  subst he
  intro p e R s m args below meth c H locs Z D dA ad0 ad A N0 xl xs ls C Wd hl ho hr
  exact lv_ishl C.1.1 C.1.2.1 hd (k p e R s m args below meth c H locs Z D dA ad0 ad A N0 xl xs ls C Wd hl ⟨trivial, ho.2.2⟩ hr)
theorem g_ishr {x y : Int32} {pc2 : Nat} (hd : decode M.2.1 pc = .ok (.ishr, 1)) (he : pc + 1 = pc2) (k : lt_G l d mc ms M ck cn sh σ pc2 L (.int (x >>> (y &&& 31)) :: st) Q) : lt_G l d mc ms M ck cn sh σ pc L (.int y :: .int x :: st) Q := by
  subst he
  intro p e R s m args below meth c H locs Z D dA ad0 ad A N0 xl xs ls C Wd hl ho hr
  exact lv_ishr C.1.1 C.1.2.1 hd (k p e R s m args below meth c H locs Z D dA ad0 ad A N0 xl xs ls C Wd hl ⟨trivial, ho.2.2⟩ hr)
theorem g_idiv {x y : Int32} {pc2 : Nat} (hd : decode M.2.1 pc = .ok (.idiv, 1)) (hne : ¬ y = 0) (he : pc + 1 = pc2) (k : lt_G l d mc ms M ck cn sh σ pc2 L (.int (x / y) :: st) Q) : lt_G l d mc ms M ck cn sh σ pc L (.int y :: .int x :: st) Q := by
  subst he
  intro p e R s m args below meth c H locs Z D dA ad0 ad A N0 xl xs ls C Wd hl ho hr
  exact lv_idiv C.1.1 C.1.2.1 hd hne (k p e R s m args below meth c H locs Z D dA ad0 ad A N0 xl xs ls C Wd hl ⟨trivial, ho.2.2⟩ hr)
theorem g_irem {x y : Int32} {pc2 : Nat} (hd : decode M.2.1 pc = .ok (.irem, 1)) (hne : ¬ y = 0) (he : pc + 1 = pc2) (k : lt_G l d mc ms M ck cn sh σ pc2 L (.int (x - x / y * y) :: st) Q) : lt_G l d mc ms M ck cn sh σ pc L (.int y :: .int x :: st) Q := by
  subst he
  intro p e R s m args below meth c H locs Z D dA ad0 ad A N0 xl xs ls C Wd hl ho hr
  exact lv_irem C.1.1 C.1.2.1 hd hne (k p e R s m args below meth c H locs Z D dA ad0 ad A N0 xl xs ls C Wd hl ⟨trivial, ho.2.2⟩ hr)
theorem g_i2c {x v : Int32} {pc2 : Nat} (hd : decode M.2.1 pc = .ok (.i2c, 1)) (hv : (x.toUInt32 % 65536).toInt32 = v) (he : pc + 1 = pc2) (k : lt_G l d mc ms M ck cn sh σ pc2 L (.int v :: st) Q) : lt_G l d mc ms M ck cn sh σ pc L (.int x :: st) Q := by
  subst he
  intro p e R s m args below meth c H locs Z D dA ad0 ad A N0 xl xs ls C Wd hl ho hr
  exact lv_i2c C.1.1 C.1.2.1 hd hv (k p e R s m args below meth c H locs Z D dA ad0 ad A N0 xl xs ls C Wd hl ⟨trivial, ho.2⟩ hr)
theorem g_dup {v : Value} {pc2 : Nat} (hd : decode M.2.1 pc = .ok (.dup, 1)) (he : pc + 1 = pc2) (k : lt_G l d mc ms M ck cn sh σ pc2 L (v :: v :: st) Q) : lt_G l d mc ms M ck cn sh σ pc L (v :: st) Q := by
  subst he
  intro p e R s m args below meth c H locs Z D dA ad0 ad A N0 xl xs ls C Wd hl ho hr
  exact lv_dup C.1.1 C.1.2.1 hd (ho.1.cat ad) (k p e R s m args below meth c H locs Z D dA ad0 ad A N0 xl xs ls C Wd hl ⟨ho.1, ho⟩ hr)
theorem g_pop {v : Value} {pc2 : Nat} (hd : decode M.2.1 pc = .ok (.pop, 1)) (he : pc + 1 = pc2) (k : lt_G l d mc ms M ck cn sh σ pc2 L st Q) : lt_G l d mc ms M ck cn sh σ pc L (v :: st) Q := by
  subst he
  intro p e R s m args below meth c H locs Z D dA ad0 ad A N0 xl xs ls C Wd hl ho hr
  exact lv_pop C.1.1 C.1.2.1 hd (ho.1.cat ad) (k p e R s m args below meth c H locs Z D dA ad0 ad A N0 xl xs ls C Wd hl ho.2 hr)
theorem g_dup2 {v w : Value} {pc2 : Nat} (hd : decode M.2.1 pc = .ok (.dup2, 1)) (he : pc + 1 = pc2) (k : lt_G l d mc ms M ck cn sh σ pc2 L (v :: w :: v :: w :: st) Q) : lt_G l d mc ms M ck cn sh σ pc L (v :: w :: st) Q := by
  subst he
  intro p e R s m args below meth c H locs Z D dA ad0 ad A N0 xl xs ls C Wd hl ho hr
  exact lv_dup2_11 C.1.1 C.1.2.1 hd (ho.1.cat ad) (ho.2.1.cat ad) (k p e R s m args below meth c H locs Z D dA ad0 ad A N0 xl xs ls C Wd hl ⟨ho.1, ho.2.1, ho⟩ hr)
theorem g_iaddN {a b pc2 : Nat} (hd : decode M.2.1 pc = .ok (.iadd, 1)) (he : pc + 1 = pc2) (k : lt_G l d mc ms M ck cn sh σ pc2 L (.int (nI (a + b)) :: st) Q) : lt_G l d mc ms M ck cn sh σ pc L (.int (nI b) :: .int (nI a) :: st) Q := g_iadd hd he (by rw [nI_add]; exact k)
theorem g_imulN {a b pc2 : Nat} (hd : decode M.2.1 pc = .ok (.imul, 1)) (he : pc + 1 = pc2) (k : lt_G l d mc ms M ck cn sh σ pc2 L (.int (nI (a * b)) :: st) Q) : lt_G l d mc ms M ck cn sh σ pc L (.int (nI b) :: .int (nI a) :: st) Q := g_imul hd he (by rw [pk_mul]; exact k)
theorem g_isubN {a b pc2 : Nat} (hd : decode M.2.1 pc = .ok (.isub, 1)) (he : pc + 1 = pc2) (hb : b ≤ a) (k : lt_G l d mc ms M ck cn sh σ pc2 L (.int (nI (a - b)) :: st) Q) : lt_G l d mc ms M ck cn sh σ pc L (.int (nI b) :: .int (nI a) :: st) Q := g_isub hd he (by rw [pk_sub hb]; exact k)
theorem g_idivN {a b pc2 : Nat} (hd : decode M.2.1 pc = .ok (.idiv, 1)) (he : pc + 1 = pc2) (ha : a < 2 ^ 31) (h0 : 0 < b) (hb : b < 2 ^ 31) (k : lt_G l d mc ms M ck cn sh σ pc2 L (.int (nI (a / b)) :: st) Q) : lt_G l d mc ms M ck cn sh σ pc L (.int (nI b) :: .int (nI a) :: st) Q := g_idiv hd (nI_ne0 h0 hb) he (by rw [pk_div ha h0 hb]; exact k)
theorem g_iremN {a b pc2 : Nat} (hd : decode M.2.1 pc = .ok (.irem, 1)) (he : pc + 1 = pc2) (ha : a < 2 ^ 31) (h0 : 0 < b) (hb : b < 2 ^ 31) (k : lt_G l d mc ms M ck cn sh σ pc2 L (.int (nI (a % b)) :: st) Q) : lt_G l d mc ms M ck cn sh σ pc L (.int (nI b) :: .int (nI a) :: st) Q := g_irem hd (nI_ne0 h0 hb) he (by rw [pk_rem ha h0 hb]; exact k)
theorem g_goto {off : Int} (tgt : Nat) (hd : decode M.2.1 pc = .ok (.goto off, 3)) (ht : (pc : Int) + off = (tgt : Int)) (k : lt_G l d mc ms M ck cn sh σ tgt L st Q) : lt_G l d mc ms M ck cn sh σ pc L st Q := by
  intro p e R s m args below meth c H locs Z D dA ad0 ad A N0 xl xs ls C Wd hl ho hr
  exact lv_goto C.1.1 C.1.2.1 hd ht (k p e R s m args below meth c H locs Z D dA ad0 ad A N0 xl xs ls C Wd hl ho hr)
theorem g_if_eq {x : Int32} {off : Int} (tgt pc2 : Nat) (hd : decode M.2.1 pc = .ok (.ifCond .eq off, 3)) (ht : (pc : Int) + off = (tgt : Int)) (he : pc + 3 = pc2) (kt : x = 0 → lt_G l d mc ms M ck cn sh σ tgt L st Q) (kf : ¬ x = 0 → lt_G l d mc ms M ck cn sh σ pc2 L st Q) : lt_G l d mc ms M ck cn sh σ pc L (.int x :: st) Q := by
  subst he
  intro p e R s m args below meth c H locs Z D dA ad0 ad A N0 xl xs ls C Wd hl ho hr
  exact lv_if_eq C.1.1 C.1.2.1 hd ht (fun h => (kt h) p e R s m args below meth c H locs Z D dA ad0 ad A N0 xl xs ls C Wd hl ho.2 hr) (fun h => (kf h) p e R s m args below meth c H locs Z D dA ad0 ad A N0 xl xs ls C Wd hl ho.2 hr)
theorem g_icmp_eq {x y : Int32} {off : Int} (tgt pc2 : Nat) (hd : decode M.2.1 pc = .ok (.if_icmp .eq off, 3)) (ht : (pc : Int) + off = (tgt : Int)) (he : pc + 3 = pc2) (kt : x = y → lt_G l d mc ms M ck cn sh σ tgt L st Q) (kf : ¬ x = y → lt_G l d mc ms M ck cn sh σ pc2 L st Q) : lt_G l d mc ms M ck cn sh σ pc L (.int y :: .int x :: st) Q := by
  subst he
  intro p e R s m args below meth c H locs Z D dA ad0 ad A N0 xl xs ls C Wd hl ho hr
  exact lv_icmp_eq C.1.1 C.1.2.1 hd ht (fun h => (kt h) p e R s m args below meth c H locs Z D dA ad0 ad A N0 xl xs ls C Wd hl ho.2.2 hr) (fun h => (kf h) p e R s m args below meth c H locs Z D dA ad0 ad A N0 xl xs ls C Wd hl ho.2.2 hr)
theorem g_if_ne {x : Int32} {off : Int} (tgt pc2 : Nat) (hd : decode M.2.1 pc = .ok (.ifCond .ne off, 3)) (ht : (pc : Int) + off = (tgt : Int)) (he : pc + 3 = pc2) (kt : ¬ x = 0 → lt_G l d mc ms M ck cn sh σ tgt L st Q) (kf : x = 0 → lt_G l d mc ms M ck cn sh σ pc2 L st Q) : lt_G l d mc ms M ck cn sh σ pc L (.int x :: st) Q := by
  subst he
  intro p e R s m args below meth c H locs Z D dA ad0 ad A N0 xl xs ls C Wd hl ho hr
  exact lv_if_ne C.1.1 C.1.2.1 hd ht (fun h => (kt h) p e R s m args below meth c H locs Z D dA ad0 ad A N0 xl xs ls C Wd hl ho.2 hr) (fun h => (kf h) p e R s m args below meth c H locs Z D dA ad0 ad A N0 xl xs ls C Wd hl ho.2 hr)
theorem g_icmp_ne {x y : Int32} {off : Int} (tgt pc2 : Nat) (hd : decode M.2.1 pc = .ok (.if_icmp .ne off, 3)) (ht : (pc : Int) + off = (tgt : Int)) (he : pc + 3 = pc2) (kt : ¬ x = y → lt_G l d mc ms M ck cn sh σ tgt L st Q) (kf : x = y → lt_G l d mc ms M ck cn sh σ pc2 L st Q) : lt_G l d mc ms M ck cn sh σ pc L (.int y :: .int x :: st) Q := by
  subst he
  intro p e R s m args below meth c H locs Z D dA ad0 ad A N0 xl xs ls C Wd hl ho hr
  exact lv_icmp_ne C.1.1 C.1.2.1 hd ht (fun h => (kt h) p e R s m args below meth c H locs Z D dA ad0 ad A N0 xl xs ls C Wd hl ho.2.2 hr) (fun h => (kf h) p e R s m args below meth c H locs Z D dA ad0 ad A N0 xl xs ls C Wd hl ho.2.2 hr)
theorem g_if_lt {x : Int32} {off : Int} (tgt pc2 : Nat) (hd : decode M.2.1 pc = .ok (.ifCond .lt off, 3)) (ht : (pc : Int) + off = (tgt : Int)) (he : pc + 3 = pc2) (kt : x < 0 → lt_G l d mc ms M ck cn sh σ tgt L st Q) (kf : ¬ x < 0 → lt_G l d mc ms M ck cn sh σ pc2 L st Q) : lt_G l d mc ms M ck cn sh σ pc L (.int x :: st) Q := by
  subst he
  intro p e R s m args below meth c H locs Z D dA ad0 ad A N0 xl xs ls C Wd hl ho hr
  exact lv_if_lt C.1.1 C.1.2.1 hd ht (fun h => (kt h) p e R s m args below meth c H locs Z D dA ad0 ad A N0 xl xs ls C Wd hl ho.2 hr) (fun h => (kf h) p e R s m args below meth c H locs Z D dA ad0 ad A N0 xl xs ls C Wd hl ho.2 hr)
theorem g_icmp_lt {x y : Int32} {off : Int} (tgt pc2 : Nat) (hd : decode M.2.1 pc = .ok (.if_icmp .lt off, 3)) (ht : (pc : Int) + off = (tgt : Int)) (he : pc + 3 = pc2) (kt : x < y → lt_G l d mc ms M ck cn sh σ tgt L st Q) (kf : ¬ x < y → lt_G l d mc ms M ck cn sh σ pc2 L st Q) : lt_G l d mc ms M ck cn sh σ pc L (.int y :: .int x :: st) Q := by
  subst he
  intro p e R s m args below meth c H locs Z D dA ad0 ad A N0 xl xs ls C Wd hl ho hr
  exact lv_icmp_lt C.1.1 C.1.2.1 hd ht (fun h => (kt h) p e R s m args below meth c H locs Z D dA ad0 ad A N0 xl xs ls C Wd hl ho.2.2 hr) (fun h => (kf h) p e R s m args below meth c H locs Z D dA ad0 ad A N0 xl xs ls C Wd hl ho.2.2 hr)
theorem g_if_ge {x : Int32} {off : Int} (tgt pc2 : Nat) (hd : decode M.2.1 pc = .ok (.ifCond .ge off, 3)) (ht : (pc : Int) + off = (tgt : Int)) (he : pc + 3 = pc2) (kt : 0 ≤ x → lt_G l d mc ms M ck cn sh σ tgt L st Q) (kf : ¬ 0 ≤ x → lt_G l d mc ms M ck cn sh σ pc2 L st Q) : lt_G l d mc ms M ck cn sh σ pc L (.int x :: st) Q := by
  subst he
  intro p e R s m args below meth c H locs Z D dA ad0 ad A N0 xl xs ls C Wd hl ho hr
  exact lv_if_ge C.1.1 C.1.2.1 hd ht (fun h => (kt h) p e R s m args below meth c H locs Z D dA ad0 ad A N0 xl xs ls C Wd hl ho.2 hr) (fun h => (kf h) p e R s m args below meth c H locs Z D dA ad0 ad A N0 xl xs ls C Wd hl ho.2 hr)
theorem g_icmp_ge {x y : Int32} {off : Int} (tgt pc2 : Nat) (hd : decode M.2.1 pc = .ok (.if_icmp .ge off, 3)) (ht : (pc : Int) + off = (tgt : Int)) (he : pc + 3 = pc2) (kt : y ≤ x → lt_G l d mc ms M ck cn sh σ tgt L st Q) (kf : ¬ y ≤ x → lt_G l d mc ms M ck cn sh σ pc2 L st Q) : lt_G l d mc ms M ck cn sh σ pc L (.int y :: .int x :: st) Q := by
  subst he
  intro p e R s m args below meth c H locs Z D dA ad0 ad A N0 xl xs ls C Wd hl ho hr
  exact lv_icmp_ge C.1.1 C.1.2.1 hd ht (fun h => (kt h) p e R s m args below meth c H locs Z D dA ad0 ad A N0 xl xs ls C Wd hl ho.2.2 hr) (fun h => (kf h) p e R s m args below meth c H locs Z D dA ad0 ad A N0 xl xs ls C Wd hl ho.2.2 hr)
theorem g_if_gt {x : Int32} {off : Int} (tgt pc2 : Nat) (hd : decode M.2.1 pc = .ok (.ifCond .gt off, 3)) (ht : (pc : Int) + off = (tgt : Int)) (he : pc + 3 = pc2) (kt : 0 < x → lt_G l d mc ms M ck cn sh σ tgt L st Q) (kf : ¬ 0 < x → lt_G l d mc ms M ck cn sh σ pc2 L st Q) : lt_G l d mc ms M ck cn sh σ pc L (.int x :: st) Q := by
  subst he
  intro p e R s m args below meth c H locs Z D dA ad0 ad A N0 xl xs ls C Wd hl ho hr
  exact lv_if_gt C.1.1 C.1.2.1 hd ht (fun h => (kt h) p e R s m args below meth c H locs Z D dA ad0 ad A N0 xl xs ls C Wd hl ho.2 hr) (fun h => (kf h) p e R s m args below meth c H locs Z D dA ad0 ad A N0 xl xs ls C Wd hl ho.2 hr)
theorem g_icmp_gt {x y : Int32} {off : Int} (tgt pc2 : Nat) (hd : decode M.2.1 pc = .ok (.if_icmp .gt off, 3)) (ht : (pc : Int) + off = (tgt : Int)) (he : pc + 3 = pc2) (kt : y < x → lt_G l d mc ms M ck cn sh σ tgt L st Q) (kf : ¬ y < x → lt_G l d mc ms M ck cn sh σ pc2 L st Q) : lt_G l d mc ms M ck cn sh σ pc L (.int y :: .int x :: st) Q := by
  subst he
  intro p e R s m args below meth c H locs Z D dA ad0 ad A N0 xl xs ls C Wd hl ho hr
  exact lv_icmp_gt C.1.1 C.1.2.1 hd ht (fun h => (kt h) p e R s m args below meth c H locs Z D dA ad0 ad A N0 xl xs ls C Wd hl ho.2.2 hr) (fun h => (kf h) p e R s m args below meth c H locs Z D dA ad0 ad A N0 xl xs ls C Wd hl ho.2.2 hr)
theorem g_if_le {x : Int32} {off : Int} (tgt pc2 : Nat) (hd : decode M.2.1 pc = .ok (.ifCond .le off, 3)) (ht : (pc : Int) + off = (tgt : Int)) (he : pc + 3 = pc2) (kt : x ≤ 0 → lt_G l d mc ms M ck cn sh σ tgt L st Q) (kf : ¬ x ≤ 0 → lt_G l d mc ms M ck cn sh σ pc2 L st Q) : lt_G l d mc ms M ck cn sh σ pc L (.int x :: st) Q := by
  subst he
  intro p e R s m args below meth c H locs Z D dA ad0 ad A N0 xl xs ls C Wd hl ho hr
  exact lv_if_le C.1.1 C.1.2.1 hd ht (fun h => (kt h) p e R s m args below meth c H locs Z D dA ad0 ad A N0 xl xs ls C Wd hl ho.2 hr) (fun h => (kf h) p e R s m args below meth c H locs Z D dA ad0 ad A N0 xl xs ls C Wd hl ho.2 hr)
theorem g_icmp_le {x y : Int32} {off : Int} (tgt pc2 : Nat) (hd : decode M.2.1 pc = .ok (.if_icmp .le off, 3)) (ht : (pc : Int) + off = (tgt : Int)) (he : pc + 3 = pc2) (kt : x ≤ y → lt_G l d mc ms M ck cn sh σ tgt L st Q) (kf : ¬ x ≤ y → lt_G l d mc ms M ck cn sh σ pc2 L st Q) : lt_G l d mc ms M ck cn sh σ pc L (.int y :: .int x :: st) Q := by
  subst he
  intro p e R s m args below meth c H locs Z D dA ad0 ad A N0 xl xs ls C Wd hl ho hr
  exact lv_icmp_le C.1.1 C.1.2.1 hd ht (fun h => (kt h) p e R s m args below meth c H locs Z D dA ad0 ad A N0 xl xs ls C Wd hl ho.2.2 hr) (fun h => (kf h) p e R s m args below meth c H locs Z D dA ad0 ad A N0 xl xs ls C Wd hl ho.2.2 hr)
theorem g_icmpN_eq {a b : Nat} {off : Int} (tgt pc2 : Nat) (hd : decode M.2.1 pc = .ok (.if_icmp .eq off, 3)) (ht : (pc : Int) + off = (tgt : Int)) (he : pc + 3 = pc2) (ha : a < 2 ^ 31) (hb : b < 2 ^ 31) (kt : a = b → lt_G l d mc ms M ck cn sh σ tgt L st Q) (kf : ¬ a = b → lt_G l d mc ms M ck cn sh σ pc2 L st Q) : lt_G l d mc ms M ck cn sh σ pc L (.int (nI b) :: .int (nI a) :: st) Q :=
  g_icmp_eq tgt pc2 hd ht he (fun h => kt ((nI_eq ha hb).mp h)) (fun h => kf (fun e => h ((nI_eq ha hb).mpr e)))
theorem g_icmpN_ne {a b : Nat} {off : Int} (tgt pc2 : Nat) (hd : decode M.2.1 pc = .ok (.if_icmp .ne off, 3)) (ht : (pc : Int) + off = (tgt : Int)) (he : pc + 3 = pc2) (ha : a < 2 ^ 31) (hb : b < 2 ^ 31) (kt : ¬ a = b → lt_G l d mc ms M ck cn sh σ tgt L st Q) (kf : a = b → lt_G l d mc ms M ck cn sh σ pc2 L st Q) : lt_G l d mc ms M ck cn sh σ pc L (.int (nI b) :: .int (nI a) :: st) Q :=
  g_icmp_ne tgt pc2 hd ht he (fun h => kt (fun e => h ((nI_eq ha hb).mpr e))) (fun h => kf ((nI_eq ha hb).mp h))
theorem g_icmpN_lt {a b : Nat} {off : Int} (tgt pc2 : Nat) (hd : decode M.2.1 pc = .ok (.if_icmp .lt off, 3)) (ht : (pc : Int) + off = (tgt : Int)) (he : pc + 3 = pc2) (ha : a < 2 ^ 31) (hb : b < 2 ^ 31) (kt : a < b → lt_G l d mc ms M ck cn sh σ tgt L st Q) (kf : ¬ a < b → lt_G l d mc ms M ck cn sh σ pc2 L st Q) : lt_G l d mc ms M ck cn sh σ pc L (.int (nI b) :: .int (nI a) :: st) Q :=
  g_icmp_lt tgt pc2 hd ht he (fun h => kt ((nI_ltI ha hb).mp h)) (fun h => kf (fun e => h ((nI_ltI ha hb).mpr e)))
theorem g_icmpN_ge {a b : Nat} {off : Int} (tgt pc2 : Nat) (hd : decode M.2.1 pc = .ok (.if_icmp .ge off, 3)) (ht : (pc : Int) + off = (tgt : Int)) (he : pc + 3 = pc2) (ha : a < 2 ^ 31) (hb : b < 2 ^ 31) (kt : b ≤ a → lt_G l d mc ms M ck cn sh σ tgt L st Q) (kf : ¬ b ≤ a → lt_G l d mc ms M ck cn sh σ pc2 L st Q) : lt_G l d mc ms M ck cn sh σ pc L (.int (nI b) :: .int (nI a) :: st) Q :=
  g_icmp_ge tgt pc2 hd ht he (fun h => kt ((nI_leI hb ha).mp h)) (fun h => kf (fun e => h ((nI_leI hb ha).mpr e)))
theorem g_icmpN_gt {a b : Nat} {off : Int} (tgt pc2 : Nat) (hd : decode M.2.1 pc = .ok (.if_icmp .gt off, 3)) (ht : (pc : Int) + off = (tgt : Int)) (he : pc + 3 = pc2) (ha : a < 2 ^ 31) (hb : b < 2 ^ 31) (kt : b < a → lt_G l d mc ms M ck cn sh σ tgt L st Q) (kf : ¬ b < a → lt_G l d mc ms M ck cn sh σ pc2 L st Q) : lt_G l d mc ms M ck cn sh σ pc L (.int (nI b) :: .int (nI a) :: st) Q :=
  g_icmp_gt tgt pc2 hd ht he (fun h => kt ((nI_ltI hb ha).mp h)) (fun h => kf (fun e => h ((nI_ltI hb ha).mpr e)))
theorem g_icmpN_le {a b : Nat} {off : Int} (tgt pc2 : Nat) (hd : decode M.2.1 pc = .ok (.if_icmp .le off, 3)) (ht : (pc : Int) + off = (tgt : Int)) (he : pc + 3 = pc2) (ha : a < 2 ^ 31) (hb : b < 2 ^ 31) (kt : a ≤ b → lt_G l d mc ms M ck cn sh σ tgt L st Q) (kf : ¬ a ≤ b → lt_G l d mc ms M ck cn sh σ pc2 L st Q) : lt_G l d mc ms M ck cn sh σ pc L (.int (nI b) :: .int (nI a) :: st) Q :=
  g_icmp_le tgt pc2 hd ht he (fun h => kt ((nI_leI ha hb).mp h)) (fun h => kf (fun e => h ((nI_leI ha hb).mpr e)))
theorem g_iload_n {k0 : Fin 4} {i : Nat} {x : Int32} {pc2 : Nat} (hd : decode M.2.1 pc = .ok (.iload_n k0, 1)) (hi : (k0 : Nat) = i) (hL : L[i]? = some (some (.int x))) (he : pc + 1 = pc2) (k : lt_G l d mc ms M ck cn sh σ pc2 L (.int x :: st) Q) : lt_G l d mc ms M ck cn sh σ pc L st Q := by
  subst he
  intro p e R s m args below meth c H locs Z D dA ad0 ad A N0 xl xs ls C Wd hl ho hr
  obtain ⟨lv, h1, h2⟩ := hl.1
  exact lv_iload_n C.1.1 C.1.2.1 hd hi (h1.2.2 _ (h2 i _ hL)) (k p e R s m args below meth c H locs Z D dA ad0 ad A N0 xl xs ls C Wd hl ⟨trivial, ho⟩ hr)
theorem g_iload {i : Nat} {x : Int32} {pc2 : Nat} (hd : decode M.2.1 pc = .ok (.iload i, 2)) (hL : L[i]? = some (some (.int x))) (he : pc + 2 = pc2) (k : lt_G l d mc ms M ck cn sh σ pc2 L (.int x :: st) Q) : lt_G l d mc ms M ck cn sh σ pc L st Q := by
  subst he
  intro p e R s m args below meth c H locs Z D dA ad0 ad A N0 xl xs ls C Wd hl ho hr
  obtain ⟨lv, h1, h2⟩ := hl.1
  exact lv_iload C.1.1 C.1.2.1 hd (h1.2.2 _ (h2 i _ hL)) (k p e R s m args below meth c H locs Z D dA ad0 ad A N0 xl xs ls C Wd hl ⟨trivial, ho⟩ hr)
theorem g_aload_n {k0 : Fin 4} {i : Nat} {x : Nat} {pc2 : Nat} (hd : decode M.2.1 pc = .ok (.aload_n k0, 1)) (hi : (k0 : Nat) = i) (hL : L[i]? = some (some (.ref x))) (he : pc + 1 = pc2) (k : lt_G l d mc ms M ck cn sh σ pc2 L (.ref x :: st) Q) : lt_G l d mc ms M ck cn sh σ pc L st Q := by
  subst he
  intro p e R s m args below meth c H locs Z D dA ad0 ad A N0 xl xs ls C Wd hl ho hr
  obtain ⟨lv, h1, h2⟩ := hl.1
  exact lv_aload_n C.1.1 C.1.2.1 hd hi (h1.2.2 _ (h2 i _ hL)) (k p e R s m args below meth c H locs Z D dA ad0 ad A N0 xl xs ls C Wd hl ⟨(hl.2 _ _ hL), ho⟩ hr)
theorem g_aload {i : Nat} {x : Nat} {pc2 : Nat} (hd : decode M.2.1 pc = .ok (.aload i, 2)) (hL : L[i]? = some (some (.ref x))) (he : pc + 2 = pc2) (k : lt_G l d mc ms M ck cn sh σ pc2 L (.ref x :: st) Q) : lt_G l d mc ms M ck cn sh σ pc L st Q := by
  subst he
  intro p e R s m args below meth c H locs Z D dA ad0 ad A N0 xl xs ls C Wd hl ho hr
  obtain ⟨lv, h1, h2⟩ := hl.1
  exact lv_aload C.1.1 C.1.2.1 hd (h1.2.2 _ (h2 i _ hL)) (k p e R s m args below meth c H locs Z D dA ad0 ad A N0 xl xs ls C Wd hl ⟨(hl.2 _ _ hL), ho⟩ hr)
theorem lt_lv.store {ad : Nat → Nat} {ls' : Array Slot} {nL N i : Nat} {v : Value} {lv : List (Nat × Value)} (h : ∀ (j : Nat) (w : Value), L[j]? = some (some w) → (j, lt_tr ad w) ∈ lv) (hs : ∀ (j : Nat) (w : Value), L[j]? = some (some w) → lt_sv N w) (hv : lt_sv N v) (h' : lv_has ls' nL ((i, lt_tr ad v) :: lv.filter (fun q => !(q.1 == i) && !(q.1 + 1 == i && q.2.category == 2)))) : lt_lv ad ls' nL N (L.set i (some v)) := by
  refine ⟨⟨_, h', fun j w hj => ?_⟩, fun j w hj => ?_⟩
  · by_cases e : i = j
    · subst e
      by_cases hl : i < L.length
      · rw [List.getElem?_set_self hl] at hj
        cases hj
        exact List.mem_cons_self
      · rw [List.getElem?_eq_none (by rw [List.length_set]; omega)] at hj
        cases hj
    · rw [List.getElem?_set_ne e] at hj
      refine List.mem_cons_of_mem _ (List.mem_filter.mpr ⟨h j w hj, ?_⟩)
      have e1 : (j == i) = false := by simp; omega
      have e2 : ((lt_tr ad w).category == 2) = false := by rw [(hs j w hj).cat ad]; rfl
      show (!(j == i) && !(j + 1 == i && (lt_tr ad w).category == 2)) = true
      rw [e1, e2]; simp
  · by_cases e : i = j
    · subst e
      by_cases hl : i < L.length
      · rw [List.getElem?_set_self hl] at hj
        cases hj
        exact hv
      · rw [List.getElem?_eq_none (by rw [List.length_set]; omega)] at hj
        cases hj
    · rw [List.getElem?_set_ne e] at hj
      exact hs j w hj
theorem g_istore_n {k0 : Fin 4} {i : Nat} {x : Int32} {pc2 : Nat} (hd : decode M.2.1 pc = .ok (.istore_n k0, 1)) (hi : (k0 : Nat) = i) (hn : i < M.2.2.1) (he : pc + 1 = pc2) (k : lt_G l d mc ms M ck cn sh σ pc2 (L.set i (some (.int x))) st Q) : lt_G l d mc ms M ck cn sh σ pc L (.int x :: st) Q := by
  subst he
  intro p e R s m args below meth c H locs Z D dA ad0 ad A N0 xl xs ls C Wd hl ho hr
  obtain ⟨⟨lv, h1, h2⟩, h3⟩ := hl
  exact lv_istore_n C.1.1 C.1.2.1 hd hi h1 hn rfl (fun ls' h' => k p e R s m args below meth c H locs Z D dA ad0 ad A N0 xl xs ls' C Wd (lt_lv.store (v := .int x) h2 h3 trivial h') ho.2 hr)
theorem g_istore {i : Nat} {x : Int32} {pc2 : Nat} (hd : decode M.2.1 pc = .ok (.istore i, 2)) (hn : i < M.2.2.1) (he : pc + 2 = pc2) (k : lt_G l d mc ms M ck cn sh σ pc2 (L.set i (some (.int x))) st Q) : lt_G l d mc ms M ck cn sh σ pc L (.int x :: st) Q := by
  subst he
  intro p e R s m args below meth c H locs Z D dA ad0 ad A N0 xl xs ls C Wd hl ho hr
  obtain ⟨⟨lv, h1, h2⟩, h3⟩ := hl
  exact lv_istore C.1.1 C.1.2.1 hd h1 hn rfl (fun ls' h' => k p e R s m args below meth c H locs Z D dA ad0 ad A N0 xl xs ls' C Wd (lt_lv.store (v := .int x) h2 h3 trivial h') ho.2 hr)
theorem g_astore_n {k0 : Fin 4} {i : Nat} {x : Nat} {pc2 : Nat} (hd : decode M.2.1 pc = .ok (.astore_n k0, 1)) (hi : (k0 : Nat) = i) (hn : i < M.2.2.1) (he : pc + 1 = pc2) (k : lt_G l d mc ms M ck cn sh σ pc2 (L.set i (some (.ref x))) st Q) : lt_G l d mc ms M ck cn sh σ pc L (.ref x :: st) Q := by
  subst he
  intro p e R s m args below meth c H locs Z D dA ad0 ad A N0 xl xs ls C Wd hl ho hr
  obtain ⟨⟨lv, h1, h2⟩, h3⟩ := hl
  exact lv_astore_n C.1.1 C.1.2.1 hd hi h1 hn rfl (fun ls' h' => k p e R s m args below meth c H locs Z D dA ad0 ad A N0 xl xs ls' C Wd (lt_lv.store (v := .ref x) h2 h3 ho.1 h') ho.2 hr)
theorem g_astore {i : Nat} {x : Nat} {pc2 : Nat} (hd : decode M.2.1 pc = .ok (.astore i, 2)) (hn : i < M.2.2.1) (he : pc + 2 = pc2) (k : lt_G l d mc ms M ck cn sh σ pc2 (L.set i (some (.ref x))) st Q) : lt_G l d mc ms M ck cn sh σ pc L (.ref x :: st) Q := by
  subst he
  intro p e R s m args below meth c H locs Z D dA ad0 ad A N0 xl xs ls C Wd hl ho hr
  obtain ⟨⟨lv, h1, h2⟩, h3⟩ := hl
  exact lv_astore C.1.1 C.1.2.1 hd h1 hn rfl (fun ls' h' => k p e R s m args below meth c H locs Z D dA ad0 ad A N0 xl xs ls' C Wd (lt_lv.store (v := .ref x) h2 h3 ho.1 h') ho.2 hr)
theorem g_iinc {i : Nat} {n : Int} {x v : Int32} {pc2 : Nat} (hd : decode M.2.1 pc = .ok (.iinc i n, 3)) (hL : L[i]? = some (some (.int x))) (hv : x + Int32.ofInt n = v) (hn : i < M.2.2.1) (he : pc + 3 = pc2) (k : lt_G l d mc ms M ck cn sh σ pc2 (L.set i (some (.int v))) st Q) : lt_G l d mc ms M ck cn sh σ pc L st Q := by
  subst he
  intro p e R s m args below meth c H locs Z D dA ad0 ad A N0 xl xs ls C Wd hl ho hr
  obtain ⟨⟨lv, h1, h2⟩, h3⟩ := hl
  obtain ⟨k9, hk9⟩ := List.getElem?_of_mem (h2 i _ hL)
  exact lv_iinc C.1.1 C.1.2.1 hd h1 hk9 hv hn rfl (fun ls' h' => k p e R s m args below meth c H locs Z D dA ad0 ad A N0 xl xs ls' C Wd (lt_lv.store (v := .int v) h2 h3 trivial h') ho hr)
theorem g_il0 {x : Int32} {pc2 : Nat} (hd : decode M.2.1 pc = .ok (.iload_n 0, 1)) (he : pc + 1 = pc2) (k : lt_G l d mc ms M ck cn sh σ pc2 (some (.int x) :: L) (.int x :: st) Q) : lt_G l d mc ms M ck cn sh σ pc (some (.int x) :: L) st Q := g_iload_n (i := 0) hd rfl rfl he k
theorem g_al0 {x : Nat} {pc2 : Nat} (hd : decode M.2.1 pc = .ok (.aload_n 0, 1)) (he : pc + 1 = pc2) (k : lt_G l d mc ms M ck cn sh σ pc2 (some (.ref x) :: L) (.ref x :: st) Q) : lt_G l d mc ms M ck cn sh σ pc (some (.ref x) :: L) st Q := g_aload_n (i := 0) hd rfl rfl he k
theorem g_is0 {a0 : Option Value}{x : Int32} {pc2 : Nat} (hd : decode M.2.1 pc = .ok (.istore_n 0, 1)) (hn : 0 < M.2.2.1) (he : pc + 1 = pc2) (k : lt_G l d mc ms M ck cn sh σ pc2 (some (.int x) :: L) st Q) : lt_G l d mc ms M ck cn sh σ pc (a0 :: L) (.int x :: st) Q := g_istore_n (i := 0) hd rfl hn he k
theorem g_as0 {a0 : Option Value}{x : Nat} {pc2 : Nat} (hd : decode M.2.1 pc = .ok (.astore_n 0, 1)) (hn : 0 < M.2.2.1) (he : pc + 1 = pc2) (k : lt_G l d mc ms M ck cn sh σ pc2 (some (.ref x) :: L) st Q) : lt_G l d mc ms M ck cn sh σ pc (a0 :: L) (.ref x :: st) Q := g_astore_n (i := 0) hd rfl hn he k
theorem g_in0 {n : Int} {x v : Int32} {pc2 : Nat} (hd : decode M.2.1 pc = .ok (.iinc 0 n, 3)) (hv : x + Int32.ofInt n = v) (hn : 0 < M.2.2.1) (he : pc + 3 = pc2) (k : lt_G l d mc ms M ck cn sh σ pc2 (some (.int v) :: L) st Q) : lt_G l d mc ms M ck cn sh σ pc (some (.int x) :: L) st Q := g_iinc (i := 0) hd rfl hv hn he k
theorem g_il1 {a0 : Option Value} {x : Int32} {pc2 : Nat} (hd : decode M.2.1 pc = .ok (.iload_n 1, 1)) (he : pc + 1 = pc2) (k : lt_G l d mc ms M ck cn sh σ pc2 (a0 :: some (.int x) :: L) (.int x :: st) Q) : lt_G l d mc ms M ck cn sh σ pc (a0 :: some (.int x) :: L) st Q := g_iload_n (i := 1) hd rfl rfl he k
theorem g_al1 {a0 : Option Value} {x : Nat} {pc2 : Nat} (hd : decode M.2.1 pc = .ok (.aload_n 1, 1)) (he : pc + 1 = pc2) (k : lt_G l d mc ms M ck cn sh σ pc2 (a0 :: some (.ref x) :: L) (.ref x :: st) Q) : lt_G l d mc ms M ck cn sh σ pc (a0 :: some (.ref x) :: L) st Q := g_aload_n (i := 1) hd rfl rfl he k
theorem g_is1 {a0 a1 : Option Value}{x : Int32} {pc2 : Nat} (hd : decode M.2.1 pc = .ok (.istore_n 1, 1)) (hn : 1 < M.2.2.1) (he : pc + 1 = pc2) (k : lt_G l d mc ms M ck cn sh σ pc2 (a0 :: some (.int x) :: L) st Q) : lt_G l d mc ms M ck cn sh σ pc (a0 :: a1 :: L) (.int x :: st) Q := g_istore_n (i := 1) hd rfl hn he k
theorem g_as1 {a0 a1 : Option Value}{x : Nat} {pc2 : Nat} (hd : decode M.2.1 pc = .ok (.astore_n 1, 1)) (hn : 1 < M.2.2.1) (he : pc + 1 = pc2) (k : lt_G l d mc ms M ck cn sh σ pc2 (a0 :: some (.ref x) :: L) st Q) : lt_G l d mc ms M ck cn sh σ pc (a0 :: a1 :: L) (.ref x :: st) Q := g_astore_n (i := 1) hd rfl hn he k
theorem g_in1 {a0 : Option Value} {n : Int} {x v : Int32} {pc2 : Nat} (hd : decode M.2.1 pc = .ok (.iinc 1 n, 3)) (hv : x + Int32.ofInt n = v) (hn : 1 < M.2.2.1) (he : pc + 3 = pc2) (k : lt_G l d mc ms M ck cn sh σ pc2 (a0 :: some (.int v) :: L) st Q) : lt_G l d mc ms M ck cn sh σ pc (a0 :: some (.int x) :: L) st Q := g_iinc (i := 1) hd rfl hv hn he k
theorem g_il2 {a0 a1 : Option Value} {x : Int32} {pc2 : Nat} (hd : decode M.2.1 pc = .ok (.iload_n 2, 1)) (he : pc + 1 = pc2) (k : lt_G l d mc ms M ck cn sh σ pc2 (a0 :: a1 :: some (.int x) :: L) (.int x :: st) Q) : lt_G l d mc ms M ck cn sh σ pc (a0 :: a1 :: some (.int x) :: L) st Q := g_iload_n (i := 2) hd rfl rfl he k
theorem g_al2 {a0 a1 : Option Value} {x : Nat} {pc2 : Nat} (hd : decode M.2.1 pc = .ok (.aload_n 2, 1)) (he : pc + 1 = pc2) (k : lt_G l d mc ms M ck cn sh σ pc2 (a0 :: a1 :: some (.ref x) :: L) (.ref x :: st) Q) : lt_G l d mc ms M ck cn sh σ pc (a0 :: a1 :: some (.ref x) :: L) st Q := g_aload_n (i := 2) hd rfl rfl he k
theorem g_is2 {a0 a1 a2 : Option Value}{x : Int32} {pc2 : Nat} (hd : decode M.2.1 pc = .ok (.istore_n 2, 1)) (hn : 2 < M.2.2.1) (he : pc + 1 = pc2) (k : lt_G l d mc ms M ck cn sh σ pc2 (a0 :: a1 :: some (.int x) :: L) st Q) : lt_G l d mc ms M ck cn sh σ pc (a0 :: a1 :: a2 :: L) (.int x :: st) Q := g_istore_n (i := 2) hd rfl hn he k
theorem g_as2 {a0 a1 a2 : Option Value}{x : Nat} {pc2 : Nat} (hd : decode M.2.1 pc = .ok (.astore_n 2, 1)) (hn : 2 < M.2.2.1) (he : pc + 1 = pc2) (k : lt_G l d mc ms M ck cn sh σ pc2 (a0 :: a1 :: some (.ref x) :: L) st Q) : lt_G l d mc ms M ck cn sh σ pc (a0 :: a1 :: a2 :: L) (.ref x :: st) Q := g_astore_n (i := 2) hd rfl hn he k
theorem g_in2 {a0 a1 : Option Value} {n : Int} {x v : Int32} {pc2 : Nat} (hd : decode M.2.1 pc = .ok (.iinc 2 n, 3)) (hv : x + Int32.ofInt n = v) (hn : 2 < M.2.2.1) (he : pc + 3 = pc2) (k : lt_G l d mc ms M ck cn sh σ pc2 (a0 :: a1 :: some (.int v) :: L) st Q) : lt_G l d mc ms M ck cn sh σ pc (a0 :: a1 :: some (.int x) :: L) st Q := g_iinc (i := 2) hd rfl hv hn he k
theorem g_il3 {a0 a1 a2 : Option Value} {x : Int32} {pc2 : Nat} (hd : decode M.2.1 pc = .ok (.iload_n 3, 1)) (he : pc + 1 = pc2) (k : lt_G l d mc ms M ck cn sh σ pc2 (a0 :: a1 :: a2 :: some (.int x) :: L) (.int x :: st) Q) : lt_G l d mc ms M ck cn sh σ pc (a0 :: a1 :: a2 :: some (.int x) :: L) st Q := g_iload_n (i := 3) hd rfl rfl he k
theorem g_al3 {a0 a1 a2 : Option Value} {x : Nat} {pc2 : Nat} (hd : decode M.2.1 pc = .ok (.aload_n 3, 1)) (he : pc + 1 = pc2) (k : lt_G l d mc ms M ck cn sh σ pc2 (a0 :: a1 :: a2 :: some (.ref x) :: L) (.ref x :: st) Q) : lt_G l d mc ms M ck cn sh σ pc (a0 :: a1 :: a2 :: some (.ref x) :: L) st Q := g_aload_n (i := 3) hd rfl rfl he k
theorem g_is3 {a0 a1 a2 a3 : Option Value}{x : Int32} {pc2 : Nat} (hd : decode M.2.1 pc = .ok (.istore_n 3, 1)) (hn : 3 < M.2.2.1) (he : pc + 1 = pc2) (k : lt_G l d mc ms M ck cn sh σ pc2 (a0 :: a1 :: a2 :: some (.int x) :: L) st Q) : lt_G l d mc ms M ck cn sh σ pc (a0 :: a1 :: a2 :: a3 :: L) (.int x :: st) Q := g_istore_n (i := 3) hd rfl hn he k
theorem g_as3 {a0 a1 a2 a3 : Option Value}{x : Nat} {pc2 : Nat} (hd : decode M.2.1 pc = .ok (.astore_n 3, 1)) (hn : 3 < M.2.2.1) (he : pc + 1 = pc2) (k : lt_G l d mc ms M ck cn sh σ pc2 (a0 :: a1 :: a2 :: some (.ref x) :: L) st Q) : lt_G l d mc ms M ck cn sh σ pc (a0 :: a1 :: a2 :: a3 :: L) (.ref x :: st) Q := g_astore_n (i := 3) hd rfl hn he k
theorem g_in3 {a0 a1 a2 : Option Value} {n : Int} {x v : Int32} {pc2 : Nat} (hd : decode M.2.1 pc = .ok (.iinc 3 n, 3)) (hv : x + Int32.ofInt n = v) (hn : 3 < M.2.2.1) (he : pc + 3 = pc2) (k : lt_G l d mc ms M ck cn sh σ pc2 (a0 :: a1 :: a2 :: some (.int v) :: L) st Q) : lt_G l d mc ms M ck cn sh σ pc (a0 :: a1 :: a2 :: some (.int x) :: L) st Q := g_iinc (i := 3) hd rfl hv hn he k
theorem g_il4 {a0 a1 a2 a3 : Option Value} {x : Int32} {pc2 : Nat} (hd : decode M.2.1 pc = .ok (.iload 4, 2)) (he : pc + 2 = pc2) (k : lt_G l d mc ms M ck cn sh σ pc2 (a0 :: a1 :: a2 :: a3 :: some (.int x) :: L) (.int x :: st) Q) : lt_G l d mc ms M ck cn sh σ pc (a0 :: a1 :: a2 :: a3 :: some (.int x) :: L) st Q := g_iload (i := 4) hd rfl he k
theorem g_is4 {a0 a1 a2 a3 a4 : Option Value}{x : Int32} {pc2 : Nat} (hd : decode M.2.1 pc = .ok (.istore 4, 2)) (hn : 4 < M.2.2.1) (he : pc + 2 = pc2) (k : lt_G l d mc ms M ck cn sh σ pc2 (a0 :: a1 :: a2 :: a3 :: some (.int x) :: L) st Q) : lt_G l d mc ms M ck cn sh σ pc (a0 :: a1 :: a2 :: a3 :: a4 :: L) (.int x :: st) Q := g_istore (i := 4) hd hn he k
theorem g_in4 {a0 a1 a2 a3 : Option Value} {n : Int} {x v : Int32} {pc2 : Nat} (hd : decode M.2.1 pc = .ok (.iinc 4 n, 3)) (hv : x + Int32.ofInt n = v) (hn : 4 < M.2.2.1) (he : pc + 3 = pc2) (k : lt_G l d mc ms M ck cn sh σ pc2 (a0 :: a1 :: a2 :: a3 :: some (.int v) :: L) st Q) : lt_G l d mc ms M ck cn sh σ pc (a0 :: a1 :: a2 :: a3 :: some (.int x) :: L) st Q := g_iinc (i := 4) hd rfl hv hn he k
theorem g_il5 {a0 a1 a2 a3 a4 : Option Value} {x : Int32} {pc2 : Nat} (hd : decode M.2.1 pc = .ok (.iload 5, 2)) (he : pc + 2 = pc2) (k : lt_G l d mc ms M ck cn sh σ pc2 (a0 :: a1 :: a2 :: a3 :: a4 :: some (.int x) :: L) (.int x :: st) Q) : lt_G l d mc ms M ck cn sh σ pc (a0 :: a1 :: a2 :: a3 :: a4 :: some (.int x) :: L) st Q := g_iload (i := 5) hd rfl he k
theorem g_is5 {a0 a1 a2 a3 a4 a5 : Option Value}{x : Int32} {pc2 : Nat} (hd : decode M.2.1 pc = .ok (.istore 5, 2)) (hn : 5 < M.2.2.1) (he : pc + 2 = pc2) (k : lt_G l d mc ms M ck cn sh σ pc2 (a0 :: a1 :: a2 :: a3 :: a4 :: some (.int x) :: L) st Q) : lt_G l d mc ms M ck cn sh σ pc (a0 :: a1 :: a2 :: a3 :: a4 :: a5 :: L) (.int x :: st) Q := g_istore (i := 5) hd hn he k
theorem g_in5 {a0 a1 a2 a3 a4 : Option Value} {n : Int} {x v : Int32} {pc2 : Nat} (hd : decode M.2.1 pc = .ok (.iinc 5 n, 3)) (hv : x + Int32.ofInt n = v) (hn : 5 < M.2.2.1) (he : pc + 3 = pc2) (k : lt_G l d mc ms M ck cn sh σ pc2 (a0 :: a1 :: a2 :: a3 :: a4 :: some (.int v) :: L) st Q) : lt_G l d mc ms M ck cn sh σ pc (a0 :: a1 :: a2 :: a3 :: a4 :: some (.int x) :: L) st Q := g_iinc (i := 5) hd rfl hv hn he k
theorem g_il6 {a0 a1 a2 a3 a4 a5 : Option Value} {x : Int32} {pc2 : Nat} (hd : decode M.2.1 pc = .ok (.iload 6, 2)) (he : pc + 2 = pc2) (k : lt_G l d mc ms M ck cn sh σ pc2 (a0 :: a1 :: a2 :: a3 :: a4 :: a5 :: some (.int x) :: L) (.int x :: st) Q) : lt_G l d mc ms M ck cn sh σ pc (a0 :: a1 :: a2 :: a3 :: a4 :: a5 :: some (.int x) :: L) st Q := g_iload (i := 6) hd rfl he k
theorem g_is6 {a0 a1 a2 a3 a4 a5 a6 : Option Value}{x : Int32} {pc2 : Nat} (hd : decode M.2.1 pc = .ok (.istore 6, 2)) (hn : 6 < M.2.2.1) (he : pc + 2 = pc2) (k : lt_G l d mc ms M ck cn sh σ pc2 (a0 :: a1 :: a2 :: a3 :: a4 :: a5 :: some (.int x) :: L) st Q) : lt_G l d mc ms M ck cn sh σ pc (a0 :: a1 :: a2 :: a3 :: a4 :: a5 :: a6 :: L) (.int x :: st) Q := g_istore (i := 6) hd hn he k
theorem g_in6 {a0 a1 a2 a3 a4 a5 : Option Value} {n : Int} {x v : Int32} {pc2 : Nat} (hd : decode M.2.1 pc = .ok (.iinc 6 n, 3)) (hv : x + Int32.ofInt n = v) (hn : 6 < M.2.2.1) (he : pc + 3 = pc2) (k : lt_G l d mc ms M ck cn sh σ pc2 (a0 :: a1 :: a2 :: a3 :: a4 :: a5 :: some (.int v) :: L) st Q) : lt_G l d mc ms M ck cn sh σ pc (a0 :: a1 :: a2 :: a3 :: a4 :: a5 :: some (.int x) :: L) st Q := g_iinc (i := 6) hd rfl hv hn he k
theorem g_il7 {a0 a1 a2 a3 a4 a5 a6 : Option Value} {x : Int32} {pc2 : Nat} (hd : decode M.2.1 pc = .ok (.iload 7, 2)) (he : pc + 2 = pc2) (k : lt_G l d mc ms M ck cn sh σ pc2 (a0 :: a1 :: a2 :: a3 :: a4 :: a5 :: a6 :: some (.int x) :: L) (.int x :: st) Q) : lt_G l d mc ms M ck cn sh σ pc (a0 :: a1 :: a2 :: a3 :: a4 :: a5 :: a6 :: some (.int x) :: L) st Q := g_iload (i := 7) hd rfl he k
theorem g_is7 {a0 a1 a2 a3 a4 a5 a6 a7 : Option Value}{x : Int32} {pc2 : Nat} (hd : decode M.2.1 pc = .ok (.istore 7, 2)) (hn : 7 < M.2.2.1) (he : pc + 2 = pc2) (k : lt_G l d mc ms M ck cn sh σ pc2 (a0 :: a1 :: a2 :: a3 :: a4 :: a5 :: a6 :: some (.int x) :: L) st Q) : lt_G l d mc ms M ck cn sh σ pc (a0 :: a1 :: a2 :: a3 :: a4 :: a5 :: a6 :: a7 :: L) (.int x :: st) Q := g_istore (i := 7) hd hn he k
theorem g_in7 {a0 a1 a2 a3 a4 a5 a6 : Option Value} {n : Int} {x v : Int32} {pc2 : Nat} (hd : decode M.2.1 pc = .ok (.iinc 7 n, 3)) (hv : x + Int32.ofInt n = v) (hn : 7 < M.2.2.1) (he : pc + 3 = pc2) (k : lt_G l d mc ms M ck cn sh σ pc2 (a0 :: a1 :: a2 :: a3 :: a4 :: a5 :: a6 :: some (.int v) :: L) st Q) : lt_G l d mc ms M ck cn sh σ pc (a0 :: a1 :: a2 :: a3 :: a4 :: a5 :: a6 :: some (.int x) :: L) st Q := g_iinc (i := 7) hd rfl hv hn he k
theorem g_il8 {a0 a1 a2 a3 a4 a5 a6 a7 : Option Value} {x : Int32} {pc2 : Nat} (hd : decode M.2.1 pc = .ok (.iload 8, 2)) (he : pc + 2 = pc2) (k : lt_G l d mc ms M ck cn sh σ pc2 (a0 :: a1 :: a2 :: a3 :: a4 :: a5 :: a6 :: a7 :: some (.int x) :: L) (.int x :: st) Q) : lt_G l d mc ms M ck cn sh σ pc (a0 :: a1 :: a2 :: a3 :: a4 :: a5 :: a6 :: a7 :: some (.int x) :: L) st Q := g_iload (i := 8) hd rfl he k
theorem g_is8 {a0 a1 a2 a3 a4 a5 a6 a7 a8 : Option Value}{x : Int32} {pc2 : Nat} (hd : decode M.2.1 pc = .ok (.istore 8, 2)) (hn : 8 < M.2.2.1) (he : pc + 2 = pc2) (k : lt_G l d mc ms M ck cn sh σ pc2 (a0 :: a1 :: a2 :: a3 :: a4 :: a5 :: a6 :: a7 :: some (.int x) :: L) st Q) : lt_G l d mc ms M ck cn sh σ pc (a0 :: a1 :: a2 :: a3 :: a4 :: a5 :: a6 :: a7 :: a8 :: L) (.int x :: st) Q := g_istore (i := 8) hd hn he k
theorem g_in8 {a0 a1 a2 a3 a4 a5 a6 a7 : Option Value} {n : Int} {x v : Int32} {pc2 : Nat} (hd : decode M.2.1 pc = .ok (.iinc 8 n, 3)) (hv : x + Int32.ofInt n = v) (hn : 8 < M.2.2.1) (he : pc + 3 = pc2) (k : lt_G l d mc ms M ck cn sh σ pc2 (a0 :: a1 :: a2 :: a3 :: a4 :: a5 :: a6 :: a7 :: some (.int v) :: L) st Q) : lt_G l d mc ms M ck cn sh σ pc (a0 :: a1 :: a2 :: a3 :: a4 :: a5 :: a6 :: a7 :: some (.int x) :: L) st Q := g_iinc (i := 8) hd rfl hv hn he k
theorem g_il9 {a0 a1 a2 a3 a4 a5 a6 a7 a8 : Option Value} {x : Int32} {pc2 : Nat} (hd : decode M.2.1 pc = .ok (.iload 9, 2)) (he : pc + 2 = pc2) (k : lt_G l d mc ms M ck cn sh σ pc2 (a0 :: a1 :: a2 :: a3 :: a4 :: a5 :: a6 :: a7 :: a8 :: some (.int x) :: L) (.int x :: st) Q) : lt_G l d mc ms M ck cn sh σ pc (a0 :: a1 :: a2 :: a3 :: a4 :: a5 :: a6 :: a7 :: a8 :: some (.int x) :: L) st Q := g_iload (i := 9) hd rfl he k
theorem g_is9 {a0 a1 a2 a3 a4 a5 a6 a7 a8 a9 : Option Value}{x : Int32} {pc2 : Nat} (hd : decode M.2.1 pc = .ok (.istore 9, 2)) (hn : 9 < M.2.2.1) (he : pc + 2 = pc2) (k : lt_G l d mc ms M ck cn sh σ pc2 (a0 :: a1 :: a2 :: a3 :: a4 :: a5 :: a6 :: a7 :: a8 :: some (.int x) :: L) st Q) : lt_G l d mc ms M ck cn sh σ pc (a0 :: a1 :: a2 :: a3 :: a4 :: a5 :: a6 :: a7 :: a8 :: a9 :: L) (.int x :: st) Q := g_istore (i := 9) hd hn he k
theorem g_in9 {a0 a1 a2 a3 a4 a5 a6 a7 a8 : Option Value} {n : Int} {x v : Int32} {pc2 : Nat} (hd : decode M.2.1 pc = .ok (.iinc 9 n, 3)) (hv : x + Int32.ofInt n = v) (hn : 9 < M.2.2.1) (he : pc + 3 = pc2) (k : lt_G l d mc ms M ck cn sh σ pc2 (a0 :: a1 :: a2 :: a3 :: a4 :: a5 :: a6 :: a7 :: a8 :: some (.int v) :: L) st Q) : lt_G l d mc ms M ck cn sh σ pc (a0 :: a1 :: a2 :: a3 :: a4 :: a5 :: a6 :: a7 :: a8 :: some (.int x) :: L) st Q := g_iinc (i := 9) hd rfl hv hn he k
theorem g_il10 {a0 a1 a2 a3 a4 a5 a6 a7 a8 a9 : Option Value} {x : Int32} {pc2 : Nat} (hd : decode M.2.1 pc = .ok (.iload 10, 2)) (he : pc + 2 = pc2) (k : lt_G l d mc ms M ck cn sh σ pc2 (a0 :: a1 :: a2 :: a3 :: a4 :: a5 :: a6 :: a7 :: a8 :: a9 :: some (.int x) :: L) (.int x :: st) Q) : lt_G l d mc ms M ck cn sh σ pc (a0 :: a1 :: a2 :: a3 :: a4 :: a5 :: a6 :: a7 :: a8 :: a9 :: some (.int x) :: L) st Q := g_iload (i := 10) hd rfl he k
theorem g_is10 {a0 a1 a2 a3 a4 a5 a6 a7 a8 a9 a10 : Option Value}{x : Int32} {pc2 : Nat} (hd : decode M.2.1 pc = .ok (.istore 10, 2)) (hn : 10 < M.2.2.1) (he : pc + 2 = pc2) (k : lt_G l d mc ms M ck cn sh σ pc2 (a0 :: a1 :: a2 :: a3 :: a4 :: a5 :: a6 :: a7 :: a8 :: a9 :: some (.int x) :: L) st Q) : lt_G l d mc ms M ck cn sh σ pc (a0 :: a1 :: a2 :: a3 :: a4 :: a5 :: a6 :: a7 :: a8 :: a9 :: a10 :: L) (.int x :: st) Q := g_istore (i := 10) hd hn he k
theorem g_in10 {a0 a1 a2 a3 a4 a5 a6 a7 a8 a9 : Option Value} {n : Int} {x v : Int32} {pc2 : Nat} (hd : decode M.2.1 pc = .ok (.iinc 10 n, 3)) (hv : x + Int32.ofInt n = v) (hn : 10 < M.2.2.1) (he : pc + 3 = pc2) (k : lt_G l d mc ms M ck cn sh σ pc2 (a0 :: a1 :: a2 :: a3 :: a4 :: a5 :: a6 :: a7 :: a8 :: a9 :: some (.int v) :: L) st Q) : lt_G l d mc ms M ck cn sh σ pc (a0 :: a1 :: a2 :: a3 :: a4 :: a5 :: a6 :: a7 :: a8 :: a9 :: some (.int x) :: L) st Q := g_iinc (i := 10) hd rfl hv hn he k
theorem g_il11 {a0 a1 a2 a3 a4 a5 a6 a7 a8 a9 a10 : Option Value} {x : Int32} {pc2 : Nat} (hd : decode M.2.1 pc = .ok (.iload 11, 2)) (he : pc + 2 = pc2) (k : lt_G l d mc ms M ck cn sh σ pc2 (a0 :: a1 :: a2 :: a3 :: a4 :: a5 :: a6 :: a7 :: a8 :: a9 :: a10 :: some (.int x) :: L) (.int x :: st) Q) : lt_G l d mc ms M ck cn sh σ pc (a0 :: a1 :: a2 :: a3 :: a4 :: a5 :: a6 :: a7 :: a8 :: a9 :: a10 :: some (.int x) :: L) st Q := g_iload (i := 11) hd rfl he k
theorem g_is11 {a0 a1 a2 a3 a4 a5 a6 a7 a8 a9 a10 a11 : Option Value}{x : Int32} {pc2 : Nat} (hd : decode M.2.1 pc = .ok (.istore 11, 2)) (hn : 11 < M.2.2.1) (he : pc + 2 = pc2) (k : lt_G l d mc ms M ck cn sh σ pc2 (a0 :: a1 :: a2 :: a3 :: a4 :: a5 :: a6 :: a7 :: a8 :: a9 :: a10 :: some (.int x) :: L) st Q) : lt_G l d mc ms M ck cn sh σ pc (a0 :: a1 :: a2 :: a3 :: a4 :: a5 :: a6 :: a7 :: a8 :: a9 :: a10 :: a11 :: L) (.int x :: st) Q := g_istore (i := 11) hd hn he k
theorem g_in11 {a0 a1 a2 a3 a4 a5 a6 a7 a8 a9 a10 : Option Value} {n : Int} {x v : Int32} {pc2 : Nat} (hd : decode M.2.1 pc = .ok (.iinc 11 n, 3)) (hv : x + Int32.ofInt n = v) (hn : 11 < M.2.2.1) (he : pc + 3 = pc2) (k : lt_G l d mc ms M ck cn sh σ pc2 (a0 :: a1 :: a2 :: a3 :: a4 :: a5 :: a6 :: a7 :: a8 :: a9 :: a10 :: some (.int v) :: L) st Q) : lt_G l d mc ms M ck cn sh σ pc (a0 :: a1 :: a2 :: a3 :: a4 :: a5 :: a6 :: a7 :: a8 :: a9 :: a10 :: some (.int x) :: L) st Q := g_iinc (i := 11) hd rfl hv hn he k
theorem g_il12 {a0 a1 a2 a3 a4 a5 a6 a7 a8 a9 a10 a11 : Option Value} {x : Int32} {pc2 : Nat} (hd : decode M.2.1 pc = .ok (.iload 12, 2)) (he : pc + 2 = pc2) (k : lt_G l d mc ms M ck cn sh σ pc2 (a0 :: a1 :: a2 :: a3 :: a4 :: a5 :: a6 :: a7 :: a8 :: a9 :: a10 :: a11 :: some (.int x) :: L) (.int x :: st) Q) : lt_G l d mc ms M ck cn sh σ pc (a0 :: a1 :: a2 :: a3 :: a4 :: a5 :: a6 :: a7 :: a8 :: a9 :: a10 :: a11 :: some (.int x) :: L) st Q := g_iload (i := 12) hd rfl he k
theorem g_is12 {a0 a1 a2 a3 a4 a5 a6 a7 a8 a9 a10 a11 a12 : Option Value}{x : Int32} {pc2 : Nat} (hd : decode M.2.1 pc = .ok (.istore 12, 2)) (hn : 12 < M.2.2.1) (he : pc + 2 = pc2) (k : lt_G l d mc ms M ck cn sh σ pc2 (a0 :: a1 :: a2 :: a3 :: a4 :: a5 :: a6 :: a7 :: a8 :: a9 :: a10 :: a11 :: some (.int x) :: L) st Q) : lt_G l d mc ms M ck cn sh σ pc (a0 :: a1 :: a2 :: a3 :: a4 :: a5 :: a6 :: a7 :: a8 :: a9 :: a10 :: a11 :: a12 :: L) (.int x :: st) Q := g_istore (i := 12) hd hn he k
theorem g_in12 {a0 a1 a2 a3 a4 a5 a6 a7 a8 a9 a10 a11 : Option Value} {n : Int} {x v : Int32} {pc2 : Nat} (hd : decode M.2.1 pc = .ok (.iinc 12 n, 3)) (hv : x + Int32.ofInt n = v) (hn : 12 < M.2.2.1) (he : pc + 3 = pc2) (k : lt_G l d mc ms M ck cn sh σ pc2 (a0 :: a1 :: a2 :: a3 :: a4 :: a5 :: a6 :: a7 :: a8 :: a9 :: a10 :: a11 :: some (.int v) :: L) st Q) : lt_G l d mc ms M ck cn sh σ pc (a0 :: a1 :: a2 :: a3 :: a4 :: a5 :: a6 :: a7 :: a8 :: a9 :: a10 :: a11 :: some (.int x) :: L) st Q := g_iinc (i := 12) hd rfl hv hn he k
theorem g_ret (hd : decode M.2.1 pc = .ok (.return_, 1)) (hm : M.2.2.2 = none) (hc : ck ≤ mc) (hs : cn ≤ ms) (k : Q none sh σ) : lt_G l d mc ms M ck cn sh σ pc L [] Q := by
  intro p e R s m args below meth c H locs Z D dA ad0 ad A N0 xl xs ls C Wd hl ho hr
  exact W.widen hc hs (hr none sh σ ad H locs pc ls k Wd ⟨hm, hd⟩)
theorem g_iret {x : Int32} (hd : decode M.2.1 pc = .ok (.ireturn, 1)) (hm : M.2.2.2 = some .int) (hc : ck ≤ mc) (hs : cn ≤ ms) (k : Q (some x) sh σ) : lt_G l d mc ms M ck cn sh σ pc L [.int x] Q := by
  intro p e R s m args below meth c H locs Z D dA ad0 ad A N0 xl xs ls C Wd hl ho hr
  exact W.widen hc hs (hr (some x) sh σ ad H locs pc ls k Wd ⟨.int, hm, rfl, hd⟩)
theorem g_zret {x : Int32} {ty : FieldType} (hd : decode M.2.1 pc = .ok (.ireturn, 1)) (hm : M.2.2.2 = some ty) (hz : narrow ty (.int x) = .int x) (hc : ck ≤ mc) (hs : cn ≤ ms) (k : Q (some x) sh σ) : lt_G l d mc ms M ck cn sh σ pc L [.int x] Q := by
  intro p e R s m args below meth c H locs Z D dA ad0 ad A N0 xl xs ls C Wd hl ho hr
  exact W.widen hc hs (hr (some x) sh σ ad H locs pc ls k Wd ⟨ty, hm, hz, hd⟩)
theorem g_tableOut {dflt lo hi : Int} {offs : Array Int} {len : Nat} {x : Int32} (tgt : Nat) (hd : decode M.2.1 pc = .ok (.tableswitch dflt lo hi offs, len)) (h : x.toInt < lo ∨ hi < x.toInt) (ht : (pc : Int) + dflt = (tgt : Int)) (k : lt_G l d mc ms M ck cn sh σ tgt L st Q) : lt_G l d mc ms M ck cn sh σ pc L (.int x :: st) Q := by
  intro p e R s m args below meth c H locs Z D dA ad0 ad A N0 xl xs ls C Wd hl ho hr
  exact lv_tableOut C.1.1 C.1.2.1 hd h ht (k p e R s m args below meth c H locs Z D dA ad0 ad A N0 xl xs ls C Wd hl ho.2 hr)
theorem g_tableIn {dflt lo hi : Int} {offs : Array Int} {len : Nat} {x : Int32} {off : Int} (tgt : Nat) (hd : decode M.2.1 pc = .ok (.tableswitch dflt lo hi offs, len)) (h1 : ¬ x.toInt < lo) (h2 : ¬ hi < x.toInt) (hf : offs[(x.toInt - lo).toNat]? = some off) (ht : (pc : Int) + off = (tgt : Int)) (k : lt_G l d mc ms M ck cn sh σ tgt L st Q) : lt_G l d mc ms M ck cn sh σ pc L (.int x :: st) Q := by
  intro p e R s m args below meth c H locs Z D dA ad0 ad A N0 xl xs ls C Wd hl ho hr
  exact lv_tableIn C.1.1 C.1.2.1 hd h1 h2 hf ht (k p e R s m args below meth c H locs Z D dA ad0 ad A N0 xl xs ls C Wd hl ho.2 hr)
theorem g_top {x y : Int32} (e : x = y) (k : lt_G l d mc ms M ck cn sh σ pc L (.int y :: st) Q) : lt_G l d mc ms M ck cn sh σ pc L (.int x :: st) Q := e ▸ k
end LT1
end
