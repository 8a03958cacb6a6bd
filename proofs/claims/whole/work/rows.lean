section
-- ===== PART A: goes FIRST, ahead of the names: the tables' words, and 'selects' of the private methods out of them =====
/-- a private method of a class that the tables say can be made, by its rows of tables_1 -/
def lw_okq (q : MethodName × Nat) : Prop := (q.1.cls ≠ "java/lang/invoke/MethodHandle" ∧ q.1.cls ≠ "java/lang/invoke/VarHandle") ∧ Cond.instantiable q.1.cls q.2 ∈ tables_1 ∧ Cond.privateMethod q.1 ∈ tables_1 ∧ Cond.instanceMethod q.1 ∈ tables_1
theorem lw_p0 : lw_okq (⟨"ThroatTracks", "fittingTracks", "(I)I"⟩, 8) := ⟨⟨by decide +kernel, by decide +kernel⟩, List.mem_of_getElem? (i := 17) (by decide +kernel), List.mem_of_getElem? (i := 443) (by decide +kernel), List.mem_of_getElem? (i := 444) (by decide +kernel)⟩
theorem lw_p1 : lw_okq (⟨"ThroatTracks", "placedTrains", "()I"⟩, 8) := ⟨⟨by decide +kernel, by decide +kernel⟩, List.mem_of_getElem? (i := 17) (by decide +kernel), List.mem_of_getElem? (i := 479) (by decide +kernel), List.mem_of_getElem? (i := 480) (by decide +kernel)⟩
theorem lw_p2 : lw_okq (⟨"ThroatTracks", "wishesMet", "([I)I"⟩, 8) := ⟨⟨by decide +kernel, by decide +kernel⟩, List.mem_of_getElem? (i := 17) (by decide +kernel), List.mem_of_getElem? (i := 544) (by decide +kernel), List.mem_of_getElem? (i := 545) (by decide +kernel)⟩
theorem lw_p3 : lw_okq (⟨"ThroatTracks", "movedBy", "([I)I"⟩, 8) := ⟨⟨by decide +kernel, by decide +kernel⟩, List.mem_of_getElem? (i := 17) (by decide +kernel), List.mem_of_getElem? (i := 548) (by decide +kernel), List.mem_of_getElem? (i := 549) (by decide +kernel)⟩
theorem lw_p4 : lw_okq (⟨"ThroatTracks", "trainsOn", "(II)I"⟩, 8) := ⟨⟨by decide +kernel, by decide +kernel⟩, List.mem_of_getElem? (i := 17) (by decide +kernel), List.mem_of_getElem? (i := 577) (by decide +kernel), List.mem_of_getElem? (i := 578) (by decide +kernel)⟩
theorem lw_p5 : lw_okq (⟨"ThroatTracks", "switchesIn", "(I)I"⟩, 8) := ⟨⟨by decide +kernel, by decide +kernel⟩, List.mem_of_getElem? (i := 17) (by decide +kernel), List.mem_of_getElem? (i := 585) (by decide +kernel), List.mem_of_getElem? (i := 586) (by decide +kernel)⟩
theorem lw_p6 : lw_okq (⟨"ThroatTracks", "minutesOfTrack", "(I)I"⟩, 8) := ⟨⟨by decide +kernel, by decide +kernel⟩, List.mem_of_getElem? (i := 17) (by decide +kernel), List.mem_of_getElem? (i := 601) (by decide +kernel), List.mem_of_getElem? (i := 602) (by decide +kernel)⟩
theorem lw_p7 : lw_okq (⟨"ThroatTracks", "minutesOfSwitch", "(I)I"⟩, 8) := ⟨⟨by decide +kernel, by decide +kernel⟩, List.mem_of_getElem? (i := 17) (by decide +kernel), List.mem_of_getElem? (i := 605) (by decide +kernel), List.mem_of_getElem? (i := 606) (by decide +kernel)⟩
theorem lw_p8 : lw_okq (⟨"ThroatTracksModel", "begins", "()V"⟩, 15) := ⟨⟨by decide +kernel, by decide +kernel⟩, List.mem_of_getElem? (i := 613) (by decide +kernel), List.mem_of_getElem? (i := 619) (by decide +kernel), List.mem_of_getElem? (i := 620) (by decide +kernel)⟩
theorem lw_p9 : lw_okq (⟨"ThroatTracksModel", "comes", "(IIIII)V"⟩, 15) := ⟨⟨by decide +kernel, by decide +kernel⟩, List.mem_of_getElem? (i := 613) (by decide +kernel), List.mem_of_getElem? (i := 623) (by decide +kernel), List.mem_of_getElem? (i := 624) (by decide +kernel)⟩
theorem lw_p10 : lw_okq (⟨"ThroatTracksModel", "takesAll", "()V"⟩, 15) := ⟨⟨by decide +kernel, by decide +kernel⟩, List.mem_of_getElem? (i := 613) (by decide +kernel), List.mem_of_getElem? (i := 627) (by decide +kernel), List.mem_of_getElem? (i := 628) (by decide +kernel)⟩
theorem lw_p11 : lw_okq (⟨"ThroatTracksModel", "reads", "()I"⟩, 15) := ⟨⟨by decide +kernel, by decide +kernel⟩, List.mem_of_getElem? (i := 613) (by decide +kernel), List.mem_of_getElem? (i := 693) (by decide +kernel), List.mem_of_getElem? (i := 694) (by decide +kernel)⟩
theorem lw_p12 : lw_okq (⟨"ThroatTracksModel", "takesItem", "()Z"⟩, 15) := ⟨⟨by decide +kernel, by decide +kernel⟩, List.mem_of_getElem? (i := 613) (by decide +kernel), List.mem_of_getElem? (i := 697) (by decide +kernel), List.mem_of_getElem? (i := 698) (by decide +kernel)⟩
theorem lw_p13 : lw_okq (⟨"ThroatTracksModel", "isWord", "(IIII)Z"⟩, 15) := ⟨⟨by decide +kernel, by decide +kernel⟩, List.mem_of_getElem? (i := 613) (by decide +kernel), List.mem_of_getElem? (i := 701) (by decide +kernel), List.mem_of_getElem? (i := 702) (by decide +kernel)⟩
theorem lw_p14 : lw_okq (⟨"ThroatTracksModel", "takesYard", "()Z"⟩, 15) := ⟨⟨by decide +kernel, by decide +kernel⟩, List.mem_of_getElem? (i := 613) (by decide +kernel), List.mem_of_getElem? (i := 705) (by decide +kernel), List.mem_of_getElem? (i := 706) (by decide +kernel)⟩
theorem lw_p15 : lw_okq (⟨"ThroatTracksModel", "takesNumbers", "(II)Z"⟩, 15) := ⟨⟨by decide +kernel, by decide +kernel⟩, List.mem_of_getElem? (i := 613) (by decide +kernel), List.mem_of_getElem? (i := 709) (by decide +kernel), List.mem_of_getElem? (i := 710) (by decide +kernel)⟩
def lw_privs_1 : List (MethodName × Nat) := [(⟨"ThroatTracks", "fittingTracks", "(I)I"⟩, 8), (⟨"ThroatTracks", "placedTrains", "()I"⟩, 8), (⟨"ThroatTracks", "wishesMet", "([I)I"⟩, 8), (⟨"ThroatTracks", "movedBy", "([I)I"⟩, 8), (⟨"ThroatTracks", "trainsOn", "(II)I"⟩, 8), (⟨"ThroatTracks", "switchesIn", "(I)I"⟩, 8), (⟨"ThroatTracks", "minutesOfTrack", "(I)I"⟩, 8), (⟨"ThroatTracks", "minutesOfSwitch", "(I)I"⟩, 8), (⟨"ThroatTracksModel", "begins", "()V"⟩, 15), (⟨"ThroatTracksModel", "comes", "(IIIII)V"⟩, 15), (⟨"ThroatTracksModel", "takesAll", "()V"⟩, 15), (⟨"ThroatTracksModel", "reads", "()I"⟩, 15), (⟨"ThroatTracksModel", "takesItem", "()Z"⟩, 15), (⟨"ThroatTracksModel", "isWord", "(IIII)Z"⟩, 15), (⟨"ThroatTracksModel", "takesYard", "()Z"⟩, 15), (⟨"ThroatTracksModel", "takesNumbers", "(II)Z"⟩, 15)]
theorem lw_r1 : ∀ q ∈ lw_privs_1, lw_okq q := List.forall_mem_cons.mpr ⟨lw_p0, List.forall_mem_cons.mpr ⟨lw_p1, List.forall_mem_cons.mpr ⟨lw_p2, List.forall_mem_cons.mpr ⟨lw_p3, List.forall_mem_cons.mpr ⟨lw_p4, List.forall_mem_cons.mpr ⟨lw_p5, List.forall_mem_cons.mpr ⟨lw_p6, List.forall_mem_cons.mpr ⟨lw_p7, List.forall_mem_cons.mpr ⟨lw_p8, List.forall_mem_cons.mpr ⟨lw_p9, List.forall_mem_cons.mpr ⟨lw_p10, List.forall_mem_cons.mpr ⟨lw_p11, List.forall_mem_cons.mpr ⟨lw_p12, List.forall_mem_cons.mpr ⟨lw_p13, List.forall_mem_cons.mpr ⟨lw_p14, List.forall_mem_cons.mpr ⟨lw_p15, fun _ h => absurd h List.not_mem_nil⟩⟩⟩⟩⟩⟩⟩⟩⟩⟩⟩⟩⟩⟩⟩⟩
theorem lw_p16 : lw_okq (⟨"ThroatTracksModel", "takesNumber", "()Z"⟩, 15) := ⟨⟨by decide +kernel, by decide +kernel⟩, List.mem_of_getElem? (i := 613) (by decide +kernel), List.mem_of_getElem? (i := 713) (by decide +kernel), List.mem_of_getElem? (i := 714) (by decide +kernel)⟩
theorem lw_p17 : lw_okq (⟨"ThroatTracksModel", "isAt", "(II)Z"⟩, 15) := ⟨⟨by decide +kernel, by decide +kernel⟩, List.mem_of_getElem? (i := 613) (by decide +kernel), List.mem_of_getElem? (i := 717) (by decide +kernel), List.mem_of_getElem? (i := 718) (by decide +kernel)⟩
theorem lw_p18 : lw_okq (⟨"ThroatTracksModel", "takesPath", "()Z"⟩, 15) := ⟨⟨by decide +kernel, by decide +kernel⟩, List.mem_of_getElem? (i := 613) (by decide +kernel), List.mem_of_getElem? (i := 721) (by decide +kernel), List.mem_of_getElem? (i := 722) (by decide +kernel)⟩
theorem lw_p19 : lw_okq (⟨"ThroatTracksModel", "takesTrain", "()Z"⟩, 15) := ⟨⟨by decide +kernel, by decide +kernel⟩, List.mem_of_getElem? (i := 613) (by decide +kernel), List.mem_of_getElem? (i := 725) (by decide +kernel), List.mem_of_getElem? (i := 726) (by decide +kernel)⟩
theorem lw_p20 : lw_okq (⟨"ThroatTracksModel", "takesPair", "()Z"⟩, 15) := ⟨⟨by decide +kernel, by decide +kernel⟩, List.mem_of_getElem? (i := 613) (by decide +kernel), List.mem_of_getElem? (i := 729) (by decide +kernel), List.mem_of_getElem? (i := 730) (by decide +kernel)⟩
theorem lw_p21 : lw_okq (⟨"ThroatTracksModel", "takesGap", "()Z"⟩, 15) := ⟨⟨by decide +kernel, by decide +kernel⟩, List.mem_of_getElem? (i := 613) (by decide +kernel), List.mem_of_getElem? (i := 733) (by decide +kernel), List.mem_of_getElem? (i := 734) (by decide +kernel)⟩
theorem lw_p22 : lw_okq (⟨"ThroatTracksModel", "isTrack", "(I)Z"⟩, 15) := ⟨⟨by decide +kernel, by decide +kernel⟩, List.mem_of_getElem? (i := 613) (by decide +kernel), List.mem_of_getElem? (i := 749) (by decide +kernel), List.mem_of_getElem? (i := 750) (by decide +kernel)⟩
theorem lw_p23 : lw_okq (⟨"ThroatTracksModel", "routeOf", "(II)I"⟩, 15) := ⟨⟨by decide +kernel, by decide +kernel⟩, List.mem_of_getElem? (i := 613) (by decide +kernel), List.mem_of_getElem? (i := 753) (by decide +kernel), List.mem_of_getElem? (i := 754) (by decide +kernel)⟩
theorem lw_p24 : lw_okq (⟨"ThroatTracksModel", "isTrain", "(I)Z"⟩, 15) := ⟨⟨by decide +kernel, by decide +kernel⟩, List.mem_of_getElem? (i := 613) (by decide +kernel), List.mem_of_getElem? (i := 761) (by decide +kernel), List.mem_of_getElem? (i := 762) (by decide +kernel)⟩
theorem lw_p25 : lw_okq (⟨"ThroatTracksModel", "of", "(II)I"⟩, 15) := ⟨⟨by decide +kernel, by decide +kernel⟩, List.mem_of_getElem? (i := 613) (by decide +kernel), List.mem_of_getElem? (i := 765) (by decide +kernel), List.mem_of_getElem? (i := 766) (by decide +kernel)⟩
theorem lw_p26 : lw_okq (⟨"ThroatTracksModel", "fits", "(I)I"⟩, 15) := ⟨⟨by decide +kernel, by decide +kernel⟩, List.mem_of_getElem? (i := 613) (by decide +kernel), List.mem_of_getElem? (i := 769) (by decide +kernel), List.mem_of_getElem? (i := 770) (by decide +kernel)⟩
theorem lw_p27 : lw_okq (⟨"ThroatTracksModel", "doesFit", "(II)Z"⟩, 15) := ⟨⟨by decide +kernel, by decide +kernel⟩, List.mem_of_getElem? (i := 613) (by decide +kernel), List.mem_of_getElem? (i := 773) (by decide +kernel), List.mem_of_getElem? (i := 774) (by decide +kernel)⟩
theorem lw_p28 : lw_okq (⟨"ThroatTracksModel", "wayIn", "(II)I"⟩, 15) := ⟨⟨by decide +kernel, by decide +kernel⟩, List.mem_of_getElem? (i := 613) (by decide +kernel), List.mem_of_getElem? (i := 777) (by decide +kernel), List.mem_of_getElem? (i := 778) (by decide +kernel)⟩
theorem lw_p29 : lw_okq (⟨"ThroatTracksModel", "wayOut", "(II)I"⟩, 15) := ⟨⟨by decide +kernel, by decide +kernel⟩, List.mem_of_getElem? (i := 613) (by decide +kernel), List.mem_of_getElem? (i := 781) (by decide +kernel), List.mem_of_getElem? (i := 782) (by decide +kernel)⟩
theorem lw_p30 : lw_okq (⟨"ThroatTracksModel", "hardOf", "(I)I"⟩, 15) := ⟨⟨by decide +kernel, by decide +kernel⟩, List.mem_of_getElem? (i := 613) (by decide +kernel), List.mem_of_getElem? (i := 785) (by decide +kernel), List.mem_of_getElem? (i := 786) (by decide +kernel)⟩
theorem lw_p31 : lw_okq (⟨"ThroatTracksModel", "whyNot", "(II)I"⟩, 15) := ⟨⟨by decide +kernel, by decide +kernel⟩, List.mem_of_getElem? (i := 613) (by decide +kernel), List.mem_of_getElem? (i := 789) (by decide +kernel), List.mem_of_getElem? (i := 790) (by decide +kernel)⟩
def lw_privs_2 : List (MethodName × Nat) := [(⟨"ThroatTracksModel", "takesNumber", "()Z"⟩, 15), (⟨"ThroatTracksModel", "isAt", "(II)Z"⟩, 15), (⟨"ThroatTracksModel", "takesPath", "()Z"⟩, 15), (⟨"ThroatTracksModel", "takesTrain", "()Z"⟩, 15), (⟨"ThroatTracksModel", "takesPair", "()Z"⟩, 15), (⟨"ThroatTracksModel", "takesGap", "()Z"⟩, 15), (⟨"ThroatTracksModel", "isTrack", "(I)Z"⟩, 15), (⟨"ThroatTracksModel", "routeOf", "(II)I"⟩, 15), (⟨"ThroatTracksModel", "isTrain", "(I)Z"⟩, 15), (⟨"ThroatTracksModel", "of", "(II)I"⟩, 15), (⟨"ThroatTracksModel", "fits", "(I)I"⟩, 15), (⟨"ThroatTracksModel", "doesFit", "(II)Z"⟩, 15), (⟨"ThroatTracksModel", "wayIn", "(II)I"⟩, 15), (⟨"ThroatTracksModel", "wayOut", "(II)I"⟩, 15), (⟨"ThroatTracksModel", "hardOf", "(I)I"⟩, 15), (⟨"ThroatTracksModel", "whyNot", "(II)I"⟩, 15)]
theorem lw_r2 : ∀ q ∈ lw_privs_2, lw_okq q := List.forall_mem_cons.mpr ⟨lw_p16, List.forall_mem_cons.mpr ⟨lw_p17, List.forall_mem_cons.mpr ⟨lw_p18, List.forall_mem_cons.mpr ⟨lw_p19, List.forall_mem_cons.mpr ⟨lw_p20, List.forall_mem_cons.mpr ⟨lw_p21, List.forall_mem_cons.mpr ⟨lw_p22, List.forall_mem_cons.mpr ⟨lw_p23, List.forall_mem_cons.mpr ⟨lw_p24, List.forall_mem_cons.mpr ⟨lw_p25, List.forall_mem_cons.mpr ⟨lw_p26, List.forall_mem_cons.mpr ⟨lw_p27, List.forall_mem_cons.mpr ⟨lw_p28, List.forall_mem_cons.mpr ⟨lw_p29, List.forall_mem_cons.mpr ⟨lw_p30, List.forall_mem_cons.mpr ⟨lw_p31, fun _ h => absurd h List.not_mem_nil⟩⟩⟩⟩⟩⟩⟩⟩⟩⟩⟩⟩⟩⟩⟩⟩
theorem lw_p32 : lw_okq (⟨"ThroatTracksModel", "clashing", "(II)I"⟩, 15) := ⟨⟨by decide +kernel, by decide +kernel⟩, List.mem_of_getElem? (i := 613) (by decide +kernel), List.mem_of_getElem? (i := 793) (by decide +kernel), List.mem_of_getElem? (i := 794) (by decide +kernel)⟩
theorem lw_p33 : lw_okq (⟨"ThroatTracksModel", "clashOf", "(IIII)I"⟩, 15) := ⟨⟨by decide +kernel, by decide +kernel⟩, List.mem_of_getElem? (i := 613) (by decide +kernel), List.mem_of_getElem? (i := 797) (by decide +kernel), List.mem_of_getElem? (i := 798) (by decide +kernel)⟩
theorem lw_p34 : lw_okq (⟨"ThroatTracksModel", "keeps", "()V"⟩, 15) := ⟨⟨by decide +kernel, by decide +kernel⟩, List.mem_of_getElem? (i := 613) (by decide +kernel), List.mem_of_getElem? (i := 808) (by decide +kernel), List.mem_of_getElem? (i := 809) (by decide +kernel)⟩
theorem lw_p35 : lw_okq (⟨"ThroatTracksModel", "becomes", "(III)V"⟩, 15) := ⟨⟨by decide +kernel, by decide +kernel⟩, List.mem_of_getElem? (i := 613) (by decide +kernel), List.mem_of_getElem? (i := 812) (by decide +kernel), List.mem_of_getElem? (i := 813) (by decide +kernel)⟩
theorem lw_p36 : lw_okq (⟨"ThroatTracksModel", "placed", "()I"⟩, 15) := ⟨⟨by decide +kernel, by decide +kernel⟩, List.mem_of_getElem? (i := 613) (by decide +kernel), List.mem_of_getElem? (i := 816) (by decide +kernel), List.mem_of_getElem? (i := 817) (by decide +kernel)⟩
theorem lw_p37 : lw_okq (⟨"ThroatTracksModel", "findsWay", "(II)V"⟩, 15) := ⟨⟨by decide +kernel, by decide +kernel⟩, List.mem_of_getElem? (i := 613) (by decide +kernel), List.mem_of_getElem? (i := 844) (by decide +kernel), List.mem_of_getElem? (i := 845) (by decide +kernel)⟩
theorem lw_p38 : lw_okq (⟨"ThroatTracksModel", "laysClashes", "(I)V"⟩, 15) := ⟨⟨by decide +kernel, by decide +kernel⟩, List.mem_of_getElem? (i := 613) (by decide +kernel), List.mem_of_getElem? (i := 848) (by decide +kernel), List.mem_of_getElem? (i := 849) (by decide +kernel)⟩
theorem lw_p39 : lw_okq (⟨"ThroatTracksModel", "takesIfBetter", "(I)V"⟩, 15) := ⟨⟨by decide +kernel, by decide +kernel⟩, List.mem_of_getElem? (i := 613) (by decide +kernel), List.mem_of_getElem? (i := 852) (by decide +kernel), List.mem_of_getElem? (i := 853) (by decide +kernel)⟩
theorem lw_p40 : lw_okq (⟨"ThroatTracksModel", "noneOf", "(I)I"⟩, 15) := ⟨⟨by decide +kernel, by decide +kernel⟩, List.mem_of_getElem? (i := 613) (by decide +kernel), List.mem_of_getElem? (i := 856) (by decide +kernel), List.mem_of_getElem? (i := 857) (by decide +kernel)⟩
theorem lw_p41 : lw_okq (⟨"ThroatTracksModel", "like", "(II)I"⟩, 15) := ⟨⟨by decide +kernel, by decide +kernel⟩, List.mem_of_getElem? (i := 613) (by decide +kernel), List.mem_of_getElem? (i := 860) (by decide +kernel), List.mem_of_getElem? (i := 861) (by decide +kernel)⟩
theorem lw_p42 : lw_okq (⟨"ThroatTracksModel", "may", "(II)Z"⟩, 15) := ⟨⟨by decide +kernel, by decide +kernel⟩, List.mem_of_getElem? (i := 613) (by decide +kernel), List.mem_of_getElem? (i := 867) (by decide +kernel), List.mem_of_getElem? (i := 868) (by decide +kernel)⟩
theorem lw_p43 : lw_okq (⟨"ThroatTracksModel", "isWorth", "(II)Z"⟩, 15) := ⟨⟨by decide +kernel, by decide +kernel⟩, List.mem_of_getElem? (i := 613) (by decide +kernel), List.mem_of_getElem? (i := 871) (by decide +kernel), List.mem_of_getElem? (i := 872) (by decide +kernel)⟩
theorem lw_p44 : lw_okq (⟨"ThroatTracksModel", "wished", "()I"⟩, 15) := ⟨⟨by decide +kernel, by decide +kernel⟩, List.mem_of_getElem? (i := 613) (by decide +kernel), List.mem_of_getElem? (i := 875) (by decide +kernel), List.mem_of_getElem? (i := 876) (by decide +kernel)⟩
theorem lw_p45 : lw_okq (⟨"ThroatTracksModel", "otherwise", "()I"⟩, 15) := ⟨⟨by decide +kernel, by decide +kernel⟩, List.mem_of_getElem? (i := 613) (by decide +kernel), List.mem_of_getElem? (i := 879) (by decide +kernel), List.mem_of_getElem? (i := 880) (by decide +kernel)⟩
theorem lw_p46 : lw_okq (⟨"ThroatTracksModel", "onTrack", "(II)I"⟩, 15) := ⟨⟨by decide +kernel, by decide +kernel⟩, List.mem_of_getElem? (i := 613) (by decide +kernel), List.mem_of_getElem? (i := 895) (by decide +kernel), List.mem_of_getElem? (i := 896) (by decide +kernel)⟩
theorem lw_p47 : lw_okq (⟨"ThroatTracksModel", "takenIn", "(I)I"⟩, 15) := ⟨⟨by decide +kernel, by decide +kernel⟩, List.mem_of_getElem? (i := 613) (by decide +kernel), List.mem_of_getElem? (i := 903) (by decide +kernel), List.mem_of_getElem? (i := 904) (by decide +kernel)⟩
def lw_privs_3 : List (MethodName × Nat) := [(⟨"ThroatTracksModel", "clashing", "(II)I"⟩, 15), (⟨"ThroatTracksModel", "clashOf", "(IIII)I"⟩, 15), (⟨"ThroatTracksModel", "keeps", "()V"⟩, 15), (⟨"ThroatTracksModel", "becomes", "(III)V"⟩, 15), (⟨"ThroatTracksModel", "placed", "()I"⟩, 15), (⟨"ThroatTracksModel", "findsWay", "(II)V"⟩, 15), (⟨"ThroatTracksModel", "laysClashes", "(I)V"⟩, 15), (⟨"ThroatTracksModel", "takesIfBetter", "(I)V"⟩, 15), (⟨"ThroatTracksModel", "noneOf", "(I)I"⟩, 15), (⟨"ThroatTracksModel", "like", "(II)I"⟩, 15), (⟨"ThroatTracksModel", "may", "(II)Z"⟩, 15), (⟨"ThroatTracksModel", "isWorth", "(II)Z"⟩, 15), (⟨"ThroatTracksModel", "wished", "()I"⟩, 15), (⟨"ThroatTracksModel", "otherwise", "()I"⟩, 15), (⟨"ThroatTracksModel", "onTrack", "(II)I"⟩, 15), (⟨"ThroatTracksModel", "takenIn", "(I)I"⟩, 15)]
theorem lw_r3 : ∀ q ∈ lw_privs_3, lw_okq q := List.forall_mem_cons.mpr ⟨lw_p32, List.forall_mem_cons.mpr ⟨lw_p33, List.forall_mem_cons.mpr ⟨lw_p34, List.forall_mem_cons.mpr ⟨lw_p35, List.forall_mem_cons.mpr ⟨lw_p36, List.forall_mem_cons.mpr ⟨lw_p37, List.forall_mem_cons.mpr ⟨lw_p38, List.forall_mem_cons.mpr ⟨lw_p39, List.forall_mem_cons.mpr ⟨lw_p40, List.forall_mem_cons.mpr ⟨lw_p41, List.forall_mem_cons.mpr ⟨lw_p42, List.forall_mem_cons.mpr ⟨lw_p43, List.forall_mem_cons.mpr ⟨lw_p44, List.forall_mem_cons.mpr ⟨lw_p45, List.forall_mem_cons.mpr ⟨lw_p46, List.forall_mem_cons.mpr ⟨lw_p47, fun _ h => absurd h List.not_mem_nil⟩⟩⟩⟩⟩⟩⟩⟩⟩⟩⟩⟩⟩⟩⟩⟩
theorem lw_p48 : lw_okq (⟨"ThroatTracksModel", "asWished", "()I"⟩, 15) := ⟨⟨by decide +kernel, by decide +kernel⟩, List.mem_of_getElem? (i := 613) (by decide +kernel), List.mem_of_getElem? (i := 915) (by decide +kernel), List.mem_of_getElem? (i := 916) (by decide +kernel)⟩
def lw_privs_4 : List (MethodName × Nat) := [(⟨"ThroatTracksModel", "asWished", "()I"⟩, 15)]
theorem lw_r4 : ∀ q ∈ lw_privs_4, lw_okq q := List.forall_mem_cons.mpr ⟨lw_p48, fun _ h => absurd h List.not_mem_nil⟩
def lw_privs : List (MethodName × Nat) := lw_privs_1 ++ (lw_privs_2 ++ (lw_privs_3 ++ (lw_privs_4)))
def lw_tbl : List Cond := k2_sels lw_privs ++ tables_1
theorem lw_privs_ok : ∀ q ∈ lw_privs, lw_okq q := by
  show ∀ q ∈ lw_privs_1 ++ (lw_privs_2 ++ (lw_privs_3 ++ (lw_privs_4))), lw_okq q
  exact List.forall_mem_append.mpr ⟨lw_r1, List.forall_mem_append.mpr ⟨lw_r2, List.forall_mem_append.mpr ⟨lw_r3, lw_r4⟩⟩⟩
def RX0 : String := "ThroatTracks$Clashes"
def TX0 : u_T := fun k => match k with
  | 0 => ("ThroatTracks$Clashes", "yard", "LThroatTracks$Yard;", true)
  | 1 => ("ThroatTracks$Clashes", "plan", "LThroatTracks$Plan;", true)
  | _ => ("ThroatTracks$Clashes", "against", "[I", true)
def tyX0 : Nat → FieldType := fun k => match k with
  | 0 => .object "ThroatTracks$Yard"
  | 1 => .object "ThroatTracks$Plan"
  | _ => .array .int
theorem nmX0 : ∀ a, a < 3 → ∀ b, b < 3 → a ≠ b → (TX0 a).2.1 ≠ (TX0 b).2.1 := by decide +kernel
theorem tyX0_ok : ∀ k, k < 3 → parseFieldDescriptor (TX0 k).2.2.1 = some (tyX0 k) := by decide +kernel
abbrev cX0_init : ByteArray := prog_2_method_1_code
def yX0_init : MethodName := ⟨RX0, "<init>", "(LThroatTracks$Yard;LThroatTracks$Plan;)V"⟩
abbrev cX0_seat : ByteArray := prog_2_method_2_code
def yX0_seat : MethodName := ⟨RX0, "seat", "(II)I"⟩
abbrev cX0_workOut : ByteArray := prog_2_method_3_code
def yX0_workOut : MethodName := ⟨RX0, "workOut", "()V"⟩
abbrev cX0_seatsAgainst : ByteArray := prog_2_method_4_code
def yX0_seatsAgainst : MethodName := ⟨RX0, "seatsAgainst", "(II)I"⟩
abbrev cX0_kind : ByteArray := prog_2_method_5_code
def yX0_kind : MethodName := ⟨RX0, "kind", "(IIII)I"⟩
abbrev cX0_isBehind : ByteArray := prog_2_method_6_code
def yX0_isBehind : MethodName := ⟨RX0, "isBehind", "(II)Z"⟩
abbrev cX0_shareSwitch : ByteArray := prog_2_method_7_code
def yX0_shareSwitch : MethodName := ⟨RX0, "shareSwitch", "(IIII)Z"⟩
abbrev cX0_meet : ByteArray := prog_2_method_8_code
def yX0_meet : MethodName := ⟨RX0, "meet", "(III)Z"⟩
abbrev cX0_firstAgainst : ByteArray := prog_2_method_9_code
def yX0_firstAgainst : MethodName := ⟨RX0, "firstAgainst", "(II)I"⟩
abbrev cX0_isFree : ByteArray := prog_2_method_10_code
def yX0_isFree : MethodName := ⟨RX0, "isFree", "(II)Z"⟩
abbrev cX0_freeTracks : ByteArray := prog_2_method_11_code
def yX0_freeTracks : MethodName := ⟨RX0, "freeTracks", "(I)I"⟩
def RX1 : String := "ThroatTracks$Past"
def TX1 : u_T := fun k => match k with
  | 0 => ("ThroatTracks$Past", "kept", "[LThroatTracks$Plan;", true)
  | 1 => ("ThroatTracks$Past", "next", "I", false)
  | _ => ("ThroatTracks$Past", "size", "I", false)
def tyX1 : Nat → FieldType := fun k => match k with
  | 0 => .array (.object "ThroatTracks$Plan")
  | 1 => .int
  | _ => .int
theorem nmX1 : ∀ a, a < 3 → ∀ b, b < 3 → a ≠ b → (TX1 a).2.1 ≠ (TX1 b).2.1 := by decide +kernel
theorem tyX1_ok : ∀ k, k < 3 → parseFieldDescriptor (TX1 k).2.2.1 = some (tyX1 k) := by decide +kernel
abbrev cX1_init : ByteArray := prog_3_method_1_code
def yX1_init : MethodName := ⟨RX1, "<init>", "()V"⟩
abbrev cX1_keep : ByteArray := prog_3_method_2_code
def yX1_keep : MethodName := ⟨RX1, "keep", "(LThroatTracks$Plan;)V"⟩
abbrev cX1_bringBack : ByteArray := prog_3_method_3_code
def yX1_bringBack : MethodName := ⟨RX1, "bringBack", "(LThroatTracks$Plan;)V"⟩
def RX2 : String := "ThroatTracks$Plan"
def TX2 : u_T := fun k => match k with
  | 0 => ("ThroatTracks$Plan", "arrives", "[I", true)
  | 1 => ("ThroatTracks$Plan", "leaves", "[I", true)
  | 2 => ("ThroatTracks$Plan", "wished", "[I", true)
  | _ => ("ThroatTracks$Plan", "placed", "[I", true)
def tyX2 : Nat → FieldType := fun k => match k with
  | 0 => .array .int
  | 1 => .array .int
  | 2 => .array .int
  | _ => .array .int
theorem nmX2 : ∀ a, a < 4 → ∀ b, b < 4 → a ≠ b → (TX2 a).2.1 ≠ (TX2 b).2.1 := by decide +kernel
theorem tyX2_ok : ∀ k, k < 4 → parseFieldDescriptor (TX2 k).2.2.1 = some (tyX2 k) := by decide +kernel
abbrev cX2_init : ByteArray := prog_4_method_1_code
def yX2_init : MethodName := ⟨RX2, "<init>", "()V"⟩
abbrev cX2_copy : ByteArray := prog_4_method_2_code
def yX2_copy : MethodName := ⟨RX2, "copy", "(LThroatTracks$Plan;)V"⟩
abbrev cX2_comesIn : ByteArray := prog_4_method_3_code
def yX2_comesIn : MethodName := ⟨RX2, "comesIn", "(II)Z"⟩
abbrev cX2_goesOut : ByteArray := prog_4_method_4_code
def yX2_goesOut : MethodName := ⟨RX2, "goesOut", "(II)Z"⟩
def RX3 : String := "ThroatTracks$Reader"
def TX3 : u_T := fun k => match k with
  | 0 => ("ThroatTracks$Reader", "text", "LThroatTracks$Text;", true)
  | 1 => ("ThroatTracks$Reader", "yard", "LThroatTracks$Yard;", true)
  | 2 => ("ThroatTracks$Reader", "plan", "LThroatTracks$Plan;", true)
  | 3 => ("ThroatTracks$Reader", "numbers", "[I", true)
  | _ => ("ThroatTracks$Reader", "size", "I", false)
def tyX3 : Nat → FieldType := fun k => match k with
  | 0 => .object "ThroatTracks$Text"
  | 1 => .object "ThroatTracks$Yard"
  | 2 => .object "ThroatTracks$Plan"
  | 3 => .array .int
  | _ => .int
theorem nmX3 : ∀ a, a < 5 → ∀ b, b < 5 → a ≠ b → (TX3 a).2.1 ≠ (TX3 b).2.1 := by decide +kernel
theorem tyX3_ok : ∀ k, k < 5 → parseFieldDescriptor (TX3 k).2.2.1 = some (tyX3 k) := by decide +kernel
abbrev cX3_init : ByteArray := prog_5_method_1_code
def yX3_init : MethodName := ⟨RX3, "<init>", "(LThroatTracks$Text;LThroatTracks$Yard;LThroatTracks$Plan;)V"⟩
abbrev cX3_firstFault : ByteArray := prog_5_method_2_code
def yX3_firstFault : MethodName := ⟨RX3, "firstFault", "()I"⟩
abbrev cX3_wordAt : ByteArray := prog_5_method_3_code
def yX3_wordAt : MethodName := ⟨RX3, "wordAt", "(I)I"⟩
abbrev cX3_readNumbers : ByteArray := prog_5_method_4_code
def yX3_readNumbers : MethodName := ⟨RX3, "readNumbers", "(I)I"⟩
abbrev cX3_isFigure : ByteArray := prog_5_method_5_code
def yX3_isFigure : MethodName := ⟨RX3, "isFigure", "(I)Z"⟩
abbrev cX3_isTold : ByteArray := prog_5_method_6_code
def yX3_isTold : MethodName := ⟨RX3, "isTold", "(I)Z"⟩
abbrev cX3_tellYard : ByteArray := prog_5_method_7_code
def yX3_tellYard : MethodName := ⟨RX3, "tellYard", "()Z"⟩
abbrev cX3_tellPath : ByteArray := prog_5_method_8_code
def yX3_tellPath : MethodName := ⟨RX3, "tellPath", "()Z"⟩
abbrev cX3_tellTrain : ByteArray := prog_5_method_9_code
def yX3_tellTrain : MethodName := ⟨RX3, "tellTrain", "()Z"⟩
abbrev cX3_isTrain : ByteArray := prog_5_method_10_code
def yX3_isTrain : MethodName := ⟨RX3, "isTrain", "()Z"⟩
abbrev cX3_tellPair : ByteArray := prog_5_method_11_code
def yX3_tellPair : MethodName := ⟨RX3, "tellPair", "()Z"⟩
abbrev cX3_tellGap : ByteArray := prog_5_method_12_code
def yX3_tellGap : MethodName := ⟨RX3, "tellGap", "()Z"⟩
def RX4 : String := "ThroatTracks$Search"
def TX4 : u_T := fun k => match k with
  | 0 => ("ThroatTracks$Search", "yard", "LThroatTracks$Yard;", true)
  | 1 => ("ThroatTracks$Search", "plan", "LThroatTracks$Plan;", true)
  | 2 => ("ThroatTracks$Search", "clashes", "LThroatTracks$Clashes;", true)
  | 3 => ("ThroatTracks$Search", "costs", "[I", true)
  | 4 => ("ThroatTracks$Search", "atLeast", "[I", true)
  | 5 => ("ThroatTracks$Search", "trial", "[I", true)
  | 6 => ("ThroatTracks$Search", "found", "[I", true)
  | _ => ("ThroatTracks$Search", "leastCost", "I", false)
def tyX4 : Nat → FieldType := fun k => match k with
  | 0 => .object "ThroatTracks$Yard"
  | 1 => .object "ThroatTracks$Plan"
  | 2 => .object "ThroatTracks$Clashes"
  | 3 => .array .int
  | 4 => .array .int
  | 5 => .array .int
  | 6 => .array .int
  | _ => .int
theorem nmX4 : ∀ a, a < 8 → ∀ b, b < 8 → a ≠ b → (TX4 a).2.1 ≠ (TX4 b).2.1 := by decide +kernel
theorem tyX4_ok : ∀ k, k < 8 → parseFieldDescriptor (TX4 k).2.2.1 = some (tyX4 k) := by decide +kernel
abbrev cX4_init : ByteArray := prog_6_method_1_code
def yX4_init : MethodName := ⟨RX4, "<init>", "(LThroatTracks$Yard;LThroatTracks$Plan;LThroatTracks$Clashes;)V"⟩
abbrev cX4_find : ByteArray := prog_6_method_2_code
def yX4_find : MethodName := ⟨RX4, "find", "(I)V"⟩
abbrev cX4_findAvoiding : ByteArray := prog_6_method_3_code
def yX4_findAvoiding : MethodName := ⟨RX4, "findAvoiding", "(I)V"⟩
abbrev cX4_trackless : ByteArray := prog_6_method_4_code
def yX4_trackless : MethodName := ⟨RX4, "trackless", "()I"⟩
abbrev cX4_weigh : ByteArray := prog_6_method_5_code
def yX4_weigh : MethodName := ⟨RX4, "weigh", "(II)V"⟩
abbrev cX4_costOf : ByteArray := prog_6_method_6_code
def yX4_costOf : MethodName := ⟨RX4, "costOf", "(II)I"⟩
abbrev cX4_start : ByteArray := prog_6_method_7_code
def yX4_start : MethodName := ⟨RX4, "start", "()V"⟩
abbrev cX4_seek : ByteArray := prog_6_method_8_code
def yX4_seek : MethodName := ⟨RX4, "seek", "(III)V"⟩
abbrev cX4_keepIfLess : ByteArray := prog_6_method_9_code
def yX4_keepIfLess : MethodName := ⟨RX4, "keepIfLess", "(I)V"⟩
def RX5 : String := "ThroatTracks$Text"
def TX5 : u_T := fun k => match k with
  | 0 => ("ThroatTracks$Text", "letters", "[C", true)
  | _ => ("ThroatTracks$Text", "length", "I", false)
def tyX5 : Nat → FieldType := fun k => match k with
  | 0 => .array .char
  | _ => .int
theorem nmX5 : ∀ a, a < 2 → ∀ b, b < 2 → a ≠ b → (TX5 a).2.1 ≠ (TX5 b).2.1 := by decide +kernel
theorem tyX5_ok : ∀ k, k < 2 → parseFieldDescriptor (TX5 k).2.2.1 = some (tyX5 k) := by decide +kernel
abbrev cX5_init : ByteArray := prog_7_method_1_code
def yX5_init : MethodName := ⟨RX5, "<init>", "()V"⟩
abbrev cX5_append : ByteArray := prog_7_method_2_code
def yX5_append : MethodName := ⟨RX5, "append", "(I)Z"⟩
abbrev cX5_letterAt : ByteArray := prog_7_method_3_code
def yX5_letterAt : MethodName := ⟨RX5, "letterAt", "(I)I"⟩
def RX6 : String := "ThroatTracks$Yard"
def TX6 : u_T := fun k => match k with
  | 0 => ("ThroatTracks$Yard", "lines", "I", false)
  | 1 => ("ThroatTracks$Yard", "tracks", "I", false)
  | 2 => ("ThroatTracks$Yard", "trains", "I", false)
  | 3 => ("ThroatTracks$Yard", "gap", "I", false)
  | 4 => ("ThroatTracks$Yard", "routes", "[I", true)
  | 5 => ("ThroatTracks$Yard", "lineIn", "[I", true)
  | 6 => ("ThroatTracks$Yard", "lineOut", "[I", true)
  | _ => ("ThroatTracks$Yard", "mate", "[I", true)
def tyX6 : Nat → FieldType := fun k => match k with
  | 0 => .int
  | 1 => .int
  | 2 => .int
  | 3 => .int
  | 4 => .array .int
  | 5 => .array .int
  | 6 => .array .int
  | _ => .array .int
theorem nmX6 : ∀ a, a < 8 → ∀ b, b < 8 → a ≠ b → (TX6 a).2.1 ≠ (TX6 b).2.1 := by decide +kernel
theorem tyX6_ok : ∀ k, k < 8 → parseFieldDescriptor (TX6 k).2.2.1 = some (tyX6 k) := by decide +kernel
abbrev cX6_init : ByteArray := prog_8_method_1_code
def yX6_init : MethodName := ⟨RX6, "<init>", "()V"⟩
abbrev cX6_clear : ByteArray := prog_8_method_2_code
def yX6_clear : MethodName := ⟨RX6, "clear", "()V"⟩
abbrev cX6_hasLine : ByteArray := prog_8_method_3_code
def yX6_hasLine : MethodName := ⟨RX6, "hasLine", "(I)Z"⟩
abbrev cX6_hasTrack : ByteArray := prog_8_method_4_code
def yX6_hasTrack : MethodName := ⟨RX6, "hasTrack", "(I)Z"⟩
abbrev cX6_hasTrain : ByteArray := prog_8_method_5_code
def yX6_hasTrain : MethodName := ⟨RX6, "hasTrain", "(I)Z"⟩
abbrev cX6_switchesOf : ByteArray := prog_8_method_6_code
def yX6_switchesOf : MethodName := ⟨RX6, "switchesOf", "(II)I"⟩
abbrev cX6_routeIn : ByteArray := prog_8_method_7_code
def yX6_routeIn : MethodName := ⟨RX6, "routeIn", "(II)I"⟩
abbrev cX6_routeOut : ByteArray := prog_8_method_8_code
def yX6_routeOut : MethodName := ⟨RX6, "routeOut", "(II)I"⟩
abbrev cX6_fits : ByteArray := prog_8_method_9_code
def yX6_fits : MethodName := ⟨RX6, "fits", "(II)Z"⟩
abbrev cX6_areCoupled : ByteArray := prog_8_method_10_code
def yX6_areCoupled : MethodName := ⟨RX6, "areCoupled", "(II)Z"⟩
def RX7 : String := "ThroatTracks"
def TX7 : u_T := fun k => match k with
  | 0 => ("ThroatTracks", "text", "LThroatTracks$Text;", true)
  | 1 => ("ThroatTracks", "yard", "LThroatTracks$Yard;", true)
  | 2 => ("ThroatTracks", "plan", "LThroatTracks$Plan;", true)
  | 3 => ("ThroatTracks", "reader", "LThroatTracks$Reader;", true)
  | 4 => ("ThroatTracks", "proof", "LThroatTracks$Reader;", true)
  | 5 => ("ThroatTracks", "clashes", "LThroatTracks$Clashes;", true)
  | 6 => ("ThroatTracks", "search", "LThroatTracks$Search;", true)
  | _ => ("ThroatTracks", "past", "LThroatTracks$Past;", true)
def tyX7 : Nat → FieldType := fun k => match k with
  | 0 => .object "ThroatTracks$Text"
  | 1 => .object "ThroatTracks$Yard"
  | 2 => .object "ThroatTracks$Plan"
  | 3 => .object "ThroatTracks$Reader"
  | 4 => .object "ThroatTracks$Reader"
  | 5 => .object "ThroatTracks$Clashes"
  | 6 => .object "ThroatTracks$Search"
  | _ => .object "ThroatTracks$Past"
theorem nmX7 : ∀ a, a < 8 → ∀ b, b < 8 → a ≠ b → (TX7 a).2.1 ≠ (TX7 b).2.1 := by decide +kernel
theorem tyX7_ok : ∀ k, k < 8 → parseFieldDescriptor (TX7 k).2.2.1 = some (tyX7 k) := by decide +kernel
abbrev cX7_init : ByteArray := prog_1_method_1_code
def yX7_init : MethodName := ⟨RX7, "<init>", "()V"⟩
abbrev cX7_write : ByteArray := prog_1_method_2_code
def yX7_write : MethodName := ⟨RX7, "write", "(I)I"⟩
abbrev cX7_wipe : ByteArray := prog_1_method_3_code
def yX7_wipe : MethodName := ⟨RX7, "wipe", "()I"⟩
abbrev cX7_fault : ByteArray := prog_1_method_4_code
def yX7_fault : MethodName := ⟨RX7, "fault", "()I"⟩
abbrev cX7_lay : ByteArray := prog_1_method_5_code
def yX7_lay : MethodName := ⟨RX7, "lay", "()I"⟩
abbrev cX7_route : ByteArray := prog_1_method_6_code
def yX7_route : MethodName := ⟨RX7, "route", "(II)I"⟩
abbrev cX7_train : ByteArray := prog_1_method_7_code
def yX7_train : MethodName := ⟨RX7, "train", "(II)I"⟩
abbrev cX7_fittingTracks : ByteArray := prog_1_method_8_code
def yX7_fittingTracks : MethodName := ⟨RX7, "fittingTracks", "(I)I"⟩
abbrev cX7_give : ByteArray := prog_1_method_9_code
def yX7_give : MethodName := ⟨RX7, "give", "(II)I"⟩
abbrev cX7_take : ByteArray := prog_1_method_10_code
def yX7_take : MethodName := ⟨RX7, "take", "(I)I"⟩
abbrev cX7_why : ByteArray := prog_1_method_11_code
def yX7_why : MethodName := ⟨RX7, "why", "(II)I"⟩
abbrev cX7_clash : ByteArray := prog_1_method_12_code
def yX7_clash : MethodName := ⟨RX7, "clash", "(IIII)I"⟩
abbrev cX7_late : ByteArray := prog_1_method_13_code
def yX7_late : MethodName := ⟨RX7, "late", "(II)I"⟩
abbrev cX7_wish : ByteArray := prog_1_method_14_code
def yX7_wish : MethodName := ⟨RX7, "wish", "(II)I"⟩
abbrev cX7_way : ByteArray := prog_1_method_15_code
def yX7_way : MethodName := ⟨RX7, "way", "(II)I"⟩
abbrev cX7_adopt : ByteArray := prog_1_method_16_code
def yX7_adopt : MethodName := ⟨RX7, "adopt", "(I)I"⟩
abbrev cX7_without : ByteArray := prog_1_method_17_code
def yX7_without : MethodName := ⟨RX7, "without", "(I)I"⟩
abbrev cX7_undo : ByteArray := prog_1_method_18_code
def yX7_undo : MethodName := ⟨RX7, "undo", "()I"⟩
abbrev cX7_on : ByteArray := prog_1_method_19_code
def yX7_on : MethodName := ⟨RX7, "on", "(II)I"⟩
abbrev cX7_taken : ByteArray := prog_1_method_20_code
def yX7_taken : MethodName := ⟨RX7, "taken", "(I)I"⟩
abbrev cX7_use : ByteArray := prog_1_method_21_code
def yX7_use : MethodName := ⟨RX7, "use", "(II)I"⟩
abbrev cX7_count : ByteArray := prog_1_method_22_code
def yX7_count : MethodName := ⟨RX7, "count", "(I)I"⟩
abbrev cX7_placedTrains : ByteArray := prog_1_method_23_code
def yX7_placedTrains : MethodName := ⟨RX7, "placedTrains", "()I"⟩
abbrev cX7_wishesMet : ByteArray := prog_1_method_24_code
def yX7_wishesMet : MethodName := ⟨RX7, "wishesMet", "([I)I"⟩
abbrev cX7_movedBy : ByteArray := prog_1_method_25_code
def yX7_movedBy : MethodName := ⟨RX7, "movedBy", "([I)I"⟩
abbrev cX7_trainsOn : ByteArray := prog_1_method_26_code
def yX7_trainsOn : MethodName := ⟨RX7, "trainsOn", "(II)I"⟩
abbrev cX7_switchesIn : ByteArray := prog_1_method_27_code
def yX7_switchesIn : MethodName := ⟨RX7, "switchesIn", "(I)I"⟩
abbrev cX7_minutesOfTrack : ByteArray := prog_1_method_28_code
def yX7_minutesOfTrack : MethodName := ⟨RX7, "minutesOfTrack", "(I)I"⟩
abbrev cX7_minutesOfSwitch : ByteArray := prog_1_method_29_code
def yX7_minutesOfSwitch : MethodName := ⟨RX7, "minutesOfSwitch", "(I)I"⟩
def RX8 : String := "ThroatTracksModel"
def TX8 : u_T := fun k => match k with
  | 0 => ("ThroatTracksModel", "now", "[I", true)
  | 1 => ("ThroatTracksModel", "read", "[I", true)
  | 2 => ("ThroatTracksModel", "past", "[I", true)
  | 3 => ("ThroatTracksModel", "changes", "I", false)
  | 4 => ("ThroatTracksModel", "text", "[I", true)
  | 5 => ("ThroatTracksModel", "letters", "I", false)
  | 6 => ("ThroatTracksModel", "spot", "I", false)
  | 7 => ("ThroatTracksModel", "told", "[I", true)
  | 8 => ("ThroatTracksModel", "many", "I", false)
  | 9 => ("ThroatTracksModel", "canHave", "[Z", true)
  | 10 => ("ThroatTracksModel", "clashes", "[Z", true)
  | 11 => ("ThroatTracksModel", "tried", "[I", true)
  | 12 => ("ThroatTracksModel", "found", "[I", true)
  | 13 => ("ThroatTracksModel", "foundNone", "I", false)
  | _ => ("ThroatTracksModel", "foundLike", "I", false)
def tyX8 : Nat → FieldType := fun k => match k with
  | 0 => .array .int
  | 1 => .array .int
  | 2 => .array .int
  | 3 => .int
  | 4 => .array .int
  | 5 => .int
  | 6 => .int
  | 7 => .array .int
  | 8 => .int
  | 9 => .array .boolean
  | 10 => .array .boolean
  | 11 => .array .int
  | 12 => .array .int
  | 13 => .int
  | _ => .int
theorem nmX8 : ∀ a, a < 15 → ∀ b, b < 15 → a ≠ b → (TX8 a).2.1 ≠ (TX8 b).2.1 := by decide +kernel
theorem tyX8_ok : ∀ k, k < 15 → parseFieldDescriptor (TX8 k).2.2.1 = some (tyX8 k) := by decide +kernel
abbrev cX8_init : ByteArray := prog_10_method_1_code
def yX8_init : MethodName := ⟨RX8, "<init>", "()V"⟩
abbrev cX8_in : ByteArray := prog_10_method_3_code
def yX8_in : MethodName := ⟨RX8, "in", "(III)Z"⟩
abbrev cX8_begins : ByteArray := prog_10_method_4_code
def yX8_begins : MethodName := ⟨RX8, "begins", "()V"⟩
abbrev cX8_comes : ByteArray := prog_10_method_5_code
def yX8_comes : MethodName := ⟨RX8, "comes", "(IIIII)V"⟩
abbrev cX8_takesAll : ByteArray := prog_10_method_6_code
def yX8_takesAll : MethodName := ⟨RX8, "takesAll", "()V"⟩
abbrev cX8_isAt : ByteArray := prog_10_method_7_code
def yX8_isAt : MethodName := ⟨RX8, "isAt", "(II)Z"⟩
abbrev cX8_isWord : ByteArray := prog_10_method_8_code
def yX8_isWord : MethodName := ⟨RX8, "isWord", "(IIII)Z"⟩
abbrev cX8_takesNumber : ByteArray := prog_10_method_9_code
def yX8_takesNumber : MethodName := ⟨RX8, "takesNumber", "()Z"⟩
abbrev cX8_takesNumbers : ByteArray := prog_10_method_10_code
def yX8_takesNumbers : MethodName := ⟨RX8, "takesNumbers", "(II)Z"⟩
abbrev cX8_takesYard : ByteArray := prog_10_method_11_code
def yX8_takesYard : MethodName := ⟨RX8, "takesYard", "()Z"⟩
abbrev cX8_takesPath : ByteArray := prog_10_method_12_code
def yX8_takesPath : MethodName := ⟨RX8, "takesPath", "()Z"⟩
abbrev cX8_takesTrain : ByteArray := prog_10_method_13_code
def yX8_takesTrain : MethodName := ⟨RX8, "takesTrain", "()Z"⟩
abbrev cX8_takesPair : ByteArray := prog_10_method_14_code
def yX8_takesPair : MethodName := ⟨RX8, "takesPair", "()Z"⟩
abbrev cX8_takesGap : ByteArray := prog_10_method_15_code
def yX8_takesGap : MethodName := ⟨RX8, "takesGap", "()Z"⟩
abbrev cX8_takesItem : ByteArray := prog_10_method_16_code
def yX8_takesItem : MethodName := ⟨RX8, "takesItem", "()Z"⟩
abbrev cX8_reads : ByteArray := prog_10_method_17_code
def yX8_reads : MethodName := ⟨RX8, "reads", "()I"⟩
abbrev cX8_write : ByteArray := prog_10_method_18_code
def yX8_write : MethodName := ⟨RX8, "write", "(I)I"⟩
abbrev cX8_wipe : ByteArray := prog_10_method_19_code
def yX8_wipe : MethodName := ⟨RX8, "wipe", "()I"⟩
abbrev cX8_fault : ByteArray := prog_10_method_20_code
def yX8_fault : MethodName := ⟨RX8, "fault", "()I"⟩
abbrev cX8_lay : ByteArray := prog_10_method_21_code
def yX8_lay : MethodName := ⟨RX8, "lay", "()I"⟩
abbrev cX8_keeps : ByteArray := prog_10_method_22_code
def yX8_keeps : MethodName := ⟨RX8, "keeps", "()V"⟩
abbrev cX8_undo : ByteArray := prog_10_method_23_code
def yX8_undo : MethodName := ⟨RX8, "undo", "()I"⟩
abbrev cX8_isTrack : ByteArray := prog_10_method_24_code
def yX8_isTrack : MethodName := ⟨RX8, "isTrack", "(I)Z"⟩
abbrev cX8_isTrain : ByteArray := prog_10_method_25_code
def yX8_isTrain : MethodName := ⟨RX8, "isTrain", "(I)Z"⟩
abbrev cX8_of : ByteArray := prog_10_method_26_code
def yX8_of : MethodName := ⟨RX8, "of", "(II)I"⟩
abbrev cX8_becomes : ByteArray := prog_10_method_27_code
def yX8_becomes : MethodName := ⟨RX8, "becomes", "(III)V"⟩
abbrev cX8_routeOf : ByteArray := prog_10_method_28_code
def yX8_routeOf : MethodName := ⟨RX8, "routeOf", "(II)I"⟩
abbrev cX8_route : ByteArray := prog_10_method_29_code
def yX8_route : MethodName := ⟨RX8, "route", "(II)I"⟩
abbrev cX8_wayIn : ByteArray := prog_10_method_30_code
def yX8_wayIn : MethodName := ⟨RX8, "wayIn", "(II)I"⟩
abbrev cX8_wayOut : ByteArray := prog_10_method_31_code
def yX8_wayOut : MethodName := ⟨RX8, "wayOut", "(II)I"⟩
abbrev cX8_doesFit : ByteArray := prog_10_method_32_code
def yX8_doesFit : MethodName := ⟨RX8, "doesFit", "(II)Z"⟩
abbrev cX8_meet : ByteArray := prog_10_method_33_code
def yX8_meet : MethodName := ⟨RX8, "meet", "(II)Z"⟩
abbrev cX8_clashOf : ByteArray := prog_10_method_34_code
def yX8_clashOf : MethodName := ⟨RX8, "clashOf", "(IIII)I"⟩
abbrev cX8_clashing : ByteArray := prog_10_method_35_code
def yX8_clashing : MethodName := ⟨RX8, "clashing", "(II)I"⟩
abbrev cX8_whyNot : ByteArray := prog_10_method_36_code
def yX8_whyNot : MethodName := ⟨RX8, "whyNot", "(II)I"⟩
abbrev cX8_fits : ByteArray := prog_10_method_37_code
def yX8_fits : MethodName := ⟨RX8, "fits", "(I)I"⟩
abbrev cX8_hardOf : ByteArray := prog_10_method_38_code
def yX8_hardOf : MethodName := ⟨RX8, "hardOf", "(I)I"⟩
abbrev cX8_train : ByteArray := prog_10_method_39_code
def yX8_train : MethodName := ⟨RX8, "train", "(II)I"⟩
abbrev cX8_placed : ByteArray := prog_10_method_40_code
def yX8_placed : MethodName := ⟨RX8, "placed", "()I"⟩
abbrev cX8_give : ByteArray := prog_10_method_41_code
def yX8_give : MethodName := ⟨RX8, "give", "(II)I"⟩
abbrev cX8_take : ByteArray := prog_10_method_42_code
def yX8_take : MethodName := ⟨RX8, "take", "(I)I"⟩
abbrev cX8_why : ByteArray := prog_10_method_43_code
def yX8_why : MethodName := ⟨RX8, "why", "(II)I"⟩
abbrev cX8_clash : ByteArray := prog_10_method_44_code
def yX8_clash : MethodName := ⟨RX8, "clash", "(IIII)I"⟩
abbrev cX8_late : ByteArray := prog_10_method_45_code
def yX8_late : MethodName := ⟨RX8, "late", "(II)I"⟩
abbrev cX8_wish : ByteArray := prog_10_method_46_code
def yX8_wish : MethodName := ⟨RX8, "wish", "(II)I"⟩
abbrev cX8_laysClashes : ByteArray := prog_10_method_47_code
def yX8_laysClashes : MethodName := ⟨RX8, "laysClashes", "(I)V"⟩
abbrev cX8_may : ByteArray := prog_10_method_48_code
def yX8_may : MethodName := ⟨RX8, "may", "(II)Z"⟩
abbrev cX8_asTrack : ByteArray := prog_10_method_49_code
def yX8_asTrack : MethodName := ⟨RX8, "asTrack", "(I)I"⟩
abbrev cX8_like : ByteArray := prog_10_method_50_code
def yX8_like : MethodName := ⟨RX8, "like", "(II)I"⟩
abbrev cX8_noneOf : ByteArray := prog_10_method_51_code
def yX8_noneOf : MethodName := ⟨RX8, "noneOf", "(I)I"⟩
abbrev cX8_takesIfBetter : ByteArray := prog_10_method_52_code
def yX8_takesIfBetter : MethodName := ⟨RX8, "takesIfBetter", "(I)V"⟩
abbrev cX8_isWorth : ByteArray := prog_10_method_53_code
def yX8_isWorth : MethodName := ⟨RX8, "isWorth", "(II)Z"⟩
abbrev cX8_findsWay : ByteArray := prog_10_method_54_code
def yX8_findsWay : MethodName := ⟨RX8, "findsWay", "(II)V"⟩
abbrev cX8_otherwise : ByteArray := prog_10_method_55_code
def yX8_otherwise : MethodName := ⟨RX8, "otherwise", "()I"⟩
abbrev cX8_wished : ByteArray := prog_10_method_56_code
def yX8_wished : MethodName := ⟨RX8, "wished", "()I"⟩
abbrev cX8_way : ByteArray := prog_10_method_57_code
def yX8_way : MethodName := ⟨RX8, "way", "(II)I"⟩
abbrev cX8_adopt : ByteArray := prog_10_method_58_code
def yX8_adopt : MethodName := ⟨RX8, "adopt", "(I)I"⟩
abbrev cX8_without : ByteArray := prog_10_method_59_code
def yX8_without : MethodName := ⟨RX8, "without", "(I)I"⟩
abbrev cX8_onTrack : ByteArray := prog_10_method_60_code
def yX8_onTrack : MethodName := ⟨RX8, "onTrack", "(II)I"⟩
abbrev cX8_on : ByteArray := prog_10_method_61_code
def yX8_on : MethodName := ⟨RX8, "on", "(II)I"⟩
abbrev cX8_takenIn : ByteArray := prog_10_method_62_code
def yX8_takenIn : MethodName := ⟨RX8, "takenIn", "(I)I"⟩
abbrev cX8_taken : ByteArray := prog_10_method_63_code
def yX8_taken : MethodName := ⟨RX8, "taken", "(I)I"⟩
abbrev cX8_use : ByteArray := prog_10_method_64_code
def yX8_use : MethodName := ⟨RX8, "use", "(II)I"⟩
abbrev cX8_asWished : ByteArray := prog_10_method_65_code
def yX8_asWished : MethodName := ⟨RX8, "asWished", "()I"⟩
abbrev cX8_count : ByteArray := prog_10_method_66_code
def yX8_count : MethodName := ⟨RX8, "count", "(I)I"⟩
def RJ9 : String := "java/lang/Math"
def TJ9 : u_T := fun k => match k with
  | _ => ("", "", "", false)
def tyJ9 : Nat → FieldType := fun k => match k with
  | _ => .int
theorem nmJ9 : ∀ a, a < 0 → ∀ b, b < 0 → a ≠ b → (TJ9 a).2.1 ≠ (TJ9 b).2.1 := by decide +kernel
theorem tyJ9_ok : ∀ k, k < 0 → parseFieldDescriptor (TJ9 k).2.2.1 = some (tyJ9 k) := by decide +kernel
abbrev cJ9_max_7cf53 : ByteArray := prog_11_method_65_code
def yJ9_max_7cf53 : MethodName := ⟨RJ9, "max", "(II)I"⟩
abbrev cJ9_min_7cf53 : ByteArray := prog_11_method_69_code
def yJ9_min_7cf53 : MethodName := ⟨RJ9, "min", "(II)I"⟩
def RJ0 : String := "java/lang/String"
def TJ0 : u_T := fun k => match k with
  | _ => ("", "", "", false)
def tyJ0 : Nat → FieldType := fun k => match k with
  | _ => .int
theorem nmJ0 : ∀ a, a < 0 → ∀ b, b < 0 → a ≠ b → (TJ0 a).2.1 ≠ (TJ0 b).2.1 := by decide +kernel
theorem tyJ0_ok : ∀ k, k < 0 → parseFieldDescriptor (TJ0 k).2.2.1 = some (tyJ0 k) := by decide +kernel
abbrev cJ0_length_8abf5 : ByteArray := prog_12_method_54_code
def yJ0_length_8abf5 : MethodName := ⟨RJ0, "length", "()I"⟩
abbrev cJ0_charAt_5068e : ByteArray := prog_12_method_56_code
def yJ0_charAt_5068e : MethodName := ⟨RJ0, "charAt", "(I)C"⟩
abbrev cJ0_coder_7d493 : ByteArray := prog_12_method_152_code
def yJ0_coder_7d493 : MethodName := ⟨RJ0, "coder", "()B"⟩
abbrev cJ0_isLatin1_aae02 : ByteArray := prog_12_method_154_code
def yJ0_isLatin1_aae02 : MethodName := ⟨RJ0, "isLatin1", "()Z"⟩
abbrev cJ0_checkIndex_df160 : ByteArray := prog_12_method_155_code
def yJ0_checkIndex_df160 : MethodName := ⟨RJ0, "checkIndex", "(II)V"⟩
def RJ1 : String := "java/lang/StringLatin1"
def TJ1 : u_T := fun k => match k with
  | _ => ("", "", "", false)
def tyJ1 : Nat → FieldType := fun k => match k with
  | _ => .int
theorem nmJ1 : ∀ a, a < 0 → ∀ b, b < 0 → a ≠ b → (TJ1 a).2.1 ≠ (TJ1 b).2.1 := by decide +kernel
theorem tyJ1_ok : ∀ k, k < 0 → parseFieldDescriptor (TJ1 k).2.2.1 = some (tyJ1 k) := by decide +kernel
abbrev cJ1_charAt_3b067 : ByteArray := prog_13_method_2_code
def yJ1_charAt_3b067 : MethodName := ⟨RJ1, "charAt", "([BI)C"⟩
def RJ2 : String := "java/lang/StringUTF16"
def TJ2 : u_T := fun k => match k with
  | _ => ("", "", "", false)
def tyJ2 : Nat → FieldType := fun k => match k with
  | _ => .int
theorem nmJ2 : ∀ a, a < 0 → ∀ b, b < 0 → a ≠ b → (TJ2 a).2.1 ≠ (TJ2 b).2.1 := by decide +kernel
theorem tyJ2_ok : ∀ k, k < 0 → parseFieldDescriptor (TJ2 k).2.2.1 = some (tyJ2 k) := by decide +kernel
abbrev cJ2_getChar_3b067 : ByteArray := prog_14_method_5_code
def yJ2_getChar_3b067 : MethodName := ⟨RJ2, "getChar", "([BI)C"⟩
abbrev cJ2_length_9d52b : ByteArray := prog_14_method_6_code
def yJ2_length_9d52b : MethodName := ⟨RJ2, "length", "([B)I"⟩
abbrev cJ2_charAt_3b067 : ByteArray := prog_14_method_83_code
def yJ2_charAt_3b067 : MethodName := ⟨RJ2, "charAt", "([BI)C"⟩
abbrev cJ2_checkIndex_2214a : ByteArray := prog_14_method_91_code
def yJ2_checkIndex_2214a : MethodName := ⟨RJ2, "checkIndex", "(I[B)V"⟩
def RJ10 : String := "java/lang/System"
def TJ10 : u_T := fun k => match k with
  | _ => ("", "", "", false)
def tyJ10 : Nat → FieldType := fun k => match k with
  | _ => .int
theorem nmJ10 : ∀ a, a < 0 → ∀ b, b < 0 → a ≠ b → (TJ10 a).2.1 ≠ (TJ10 b).2.1 := by decide +kernel
theorem tyJ10_ok : ∀ k, k < 0 → parseFieldDescriptor (TJ10 k).2.2.1 = some (tyJ10 k) := by decide +kernel
def RJ3 : String := "jdk/internal/util/Preconditions"
def TJ3 : u_T := fun k => match k with
  | _ => ("", "", "", false)
def tyJ3 : Nat → FieldType := fun k => match k with
  | _ => .int
theorem nmJ3 : ∀ a, a < 0 → ∀ b, b < 0 → a ≠ b → (TJ3 a).2.1 ≠ (TJ3 b).2.1 := by decide +kernel
theorem tyJ3_ok : ∀ k, k < 0 → parseFieldDescriptor (TJ3 k).2.2.1 = some (tyJ3 k) := by decide +kernel
abbrev cJ3_checkIndex_8e157 : ByteArray := prog_16_method_11_code
def yJ3_checkIndex_8e157 : MethodName := ⟨RJ3, "checkIndex", "(IILjava/util/function/BiFunction;)I"⟩
def RL : String := "ThroatTracksLaw"
abbrev cL_law : ByteArray := code
def yL_law : MethodName := ⟨RL, "law", "([I)Z"⟩
abbrev vwCl : List vw_C := [(RX0, TX0, 3), (RX1, TX1, 3), (RX2, TX2, 4), (RX3, TX3, 5), (RX4, TX4, 8), (RX5, TX5, 2), (RX6, TX6, 8), (RX7, TX7, 8), (RX8, TX8, 15)]
end
section
theorem dX0_init_0 : decode cX0_init 0 = .ok (.aload_n 0, 1) := by decide +kernel
theorem dX0_init_1 : decode cX0_init 1 = .ok (.invokespecial 3, 3) := by decide +kernel
theorem dX0_init_4 : decode cX0_init 4 = .ok (.aload_n 0, 1) := by decide +kernel
theorem dX0_init_5 : decode cX0_init 5 = .ok (.bipush 28, 2) := by decide +kernel
theorem dX0_init_7 : decode cX0_init 7 = .ok (.newarray .int, 2) := by decide +kernel
theorem dX0_init_9 : decode cX0_init 9 = .ok (.putfield 9, 3) := by decide +kernel
theorem dX0_init_12 : decode cX0_init 12 = .ok (.aload_n 0, 1) := by decide +kernel
theorem dX0_init_13 : decode cX0_init 13 = .ok (.aload_n 1, 1) := by decide +kernel
theorem dX0_init_14 : decode cX0_init 14 = .ok (.putfield 15, 3) := by decide +kernel
theorem dX0_init_17 : decode cX0_init 17 = .ok (.aload_n 0, 1) := by decide +kernel
theorem dX0_init_18 : decode cX0_init 18 = .ok (.aload_n 2, 1) := by decide +kernel
theorem dX0_init_19 : decode cX0_init 19 = .ok (.putfield 19, 3) := by decide +kernel
theorem dX0_init_22 : decode cX0_init 22 = .ok (.return_, 1) := by decide +kernel
theorem dX0_seat_0 : decode cX0_seat 0 = .ok (.iload_n 0, 1) := by decide +kernel
theorem dX0_seat_1 : decode cX0_seat 1 = .ok (.iconst 4, 1) := by decide +kernel
theorem dX0_seat_2 : decode cX0_seat 2 = .ok (.imul, 1) := by decide +kernel
theorem dX0_seat_3 : decode cX0_seat 3 = .ok (.iload_n 1, 1) := by decide +kernel
theorem dX0_seat_4 : decode cX0_seat 4 = .ok (.iadd, 1) := by decide +kernel
theorem dX0_seat_5 : decode cX0_seat 5 = .ok (.ireturn, 1) := by decide +kernel
theorem dX0_workOut_0 : decode cX0_workOut 0 = .ok (.iconst 0, 1) := by decide +kernel
theorem dX0_workOut_1 : decode cX0_workOut 1 = .ok (.istore_n 1, 1) := by decide +kernel
theorem dX0_workOut_2 : decode cX0_workOut 2 = .ok (.iload_n 1, 1) := by decide +kernel
theorem dX0_workOut_3 : decode cX0_workOut 3 = .ok (.aload_n 0, 1) := by decide +kernel
theorem dX0_workOut_4 : decode cX0_workOut 4 = .ok (.getfield 15, 3) := by decide +kernel
theorem dX0_workOut_7 : decode cX0_workOut 7 = .ok (.getfield 23, 3) := by decide +kernel
theorem dX0_workOut_10 : decode cX0_workOut 10 = .ok (.if_icmp .ge 44, 3) := by decide +kernel
theorem dX0_workOut_13 : decode cX0_workOut 13 = .ok (.iconst 0, 1) := by decide +kernel
theorem dX0_workOut_14 : decode cX0_workOut 14 = .ok (.istore_n 2, 1) := by decide +kernel
theorem dX0_workOut_15 : decode cX0_workOut 15 = .ok (.iload_n 2, 1) := by decide +kernel
theorem dX0_workOut_16 : decode cX0_workOut 16 = .ok (.aload_n 0, 1) := by decide +kernel
theorem dX0_workOut_17 : decode cX0_workOut 17 = .ok (.getfield 15, 3) := by decide +kernel
theorem dX0_workOut_20 : decode cX0_workOut 20 = .ok (.getfield 29, 3) := by decide +kernel
theorem dX0_workOut_23 : decode cX0_workOut 23 = .ok (.if_icmp .ge 25, 3) := by decide +kernel
theorem dX0_workOut_26 : decode cX0_workOut 26 = .ok (.aload_n 0, 1) := by decide +kernel
theorem dX0_workOut_27 : decode cX0_workOut 27 = .ok (.getfield 9, 3) := by decide +kernel
theorem dX0_workOut_30 : decode cX0_workOut 30 = .ok (.iload_n 1, 1) := by decide +kernel
theorem dX0_workOut_31 : decode cX0_workOut 31 = .ok (.iload_n 2, 1) := by decide +kernel
theorem dX0_workOut_32 : decode cX0_workOut 32 = .ok (.invokestatic 32, 3) := by decide +kernel
theorem dX0_workOut_35 : decode cX0_workOut 35 = .ok (.aload_n 0, 1) := by decide +kernel
theorem dX0_workOut_36 : decode cX0_workOut 36 = .ok (.iload_n 1, 1) := by decide +kernel
theorem dX0_workOut_37 : decode cX0_workOut 37 = .ok (.iload_n 2, 1) := by decide +kernel
theorem dX0_workOut_38 : decode cX0_workOut 38 = .ok (.invokevirtual 36, 3) := by decide +kernel
theorem dX0_workOut_41 : decode cX0_workOut 41 = .ok (.iastore, 1) := by decide +kernel
theorem dX0_workOut_42 : decode cX0_workOut 42 = .ok (.iinc 2 1, 3) := by decide +kernel
theorem dX0_workOut_45 : decode cX0_workOut 45 = .ok (.goto (-30), 3) := by decide +kernel
theorem dX0_workOut_48 : decode cX0_workOut 48 = .ok (.iinc 1 1, 3) := by decide +kernel
theorem dX0_workOut_51 : decode cX0_workOut 51 = .ok (.goto (-49), 3) := by decide +kernel
theorem dX0_workOut_54 : decode cX0_workOut 54 = .ok (.return_, 1) := by decide +kernel
theorem dX0_seatsAgainst_0 : decode cX0_seatsAgainst 0 = .ok (.iconst 0, 1) := by decide +kernel
theorem dX0_seatsAgainst_1 : decode cX0_seatsAgainst 1 = .ok (.istore_n 3, 1) := by decide +kernel
theorem dX0_seatsAgainst_2 : decode cX0_seatsAgainst 2 = .ok (.iconst 0, 1) := by decide +kernel
theorem dX0_seatsAgainst_3 : decode cX0_seatsAgainst 3 = .ok (.istore 4, 2) := by decide +kernel
theorem dX0_seatsAgainst_5 : decode cX0_seatsAgainst 5 = .ok (.iload 4, 2) := by decide +kernel
theorem dX0_seatsAgainst_7 : decode cX0_seatsAgainst 7 = .ok (.aload_n 0, 1) := by decide +kernel
theorem dX0_seatsAgainst_8 : decode cX0_seatsAgainst 8 = .ok (.getfield 15, 3) := by decide +kernel
theorem dX0_seatsAgainst_11 : decode cX0_seatsAgainst 11 = .ok (.getfield 23, 3) := by decide +kernel
theorem dX0_seatsAgainst_14 : decode cX0_seatsAgainst 14 = .ok (.if_icmp .ge 61, 3) := by decide +kernel
theorem dX0_seatsAgainst_17 : decode cX0_seatsAgainst 17 = .ok (.iconst 0, 1) := by decide +kernel
theorem dX0_seatsAgainst_18 : decode cX0_seatsAgainst 18 = .ok (.istore 5, 2) := by decide +kernel
theorem dX0_seatsAgainst_20 : decode cX0_seatsAgainst 20 = .ok (.iload 5, 2) := by decide +kernel
theorem dX0_seatsAgainst_22 : decode cX0_seatsAgainst 22 = .ok (.aload_n 0, 1) := by decide +kernel
theorem dX0_seatsAgainst_23 : decode cX0_seatsAgainst 23 = .ok (.getfield 15, 3) := by decide +kernel
theorem dX0_seatsAgainst_26 : decode cX0_seatsAgainst 26 = .ok (.getfield 29, 3) := by decide +kernel
theorem dX0_seatsAgainst_29 : decode cX0_seatsAgainst 29 = .ok (.if_icmp .ge 40, 3) := by decide +kernel
theorem dX0_seatsAgainst_32 : decode cX0_seatsAgainst 32 = .ok (.iload 4, 2) := by decide +kernel
theorem dX0_seatsAgainst_34 : decode cX0_seatsAgainst 34 = .ok (.iload_n 1, 1) := by decide +kernel
theorem dX0_seatsAgainst_35 : decode cX0_seatsAgainst 35 = .ok (.if_icmp .eq 28, 3) := by decide +kernel
theorem dX0_seatsAgainst_38 : decode cX0_seatsAgainst 38 = .ok (.aload_n 0, 1) := by decide +kernel
theorem dX0_seatsAgainst_39 : decode cX0_seatsAgainst 39 = .ok (.iload_n 1, 1) := by decide +kernel
theorem dX0_seatsAgainst_40 : decode cX0_seatsAgainst 40 = .ok (.iload_n 2, 1) := by decide +kernel
theorem dX0_seatsAgainst_41 : decode cX0_seatsAgainst 41 = .ok (.iload 4, 2) := by decide +kernel
theorem dX0_seatsAgainst_43 : decode cX0_seatsAgainst 43 = .ok (.iload 5, 2) := by decide +kernel
theorem dX0_seatsAgainst_45 : decode cX0_seatsAgainst 45 = .ok (.invokevirtual 39, 3) := by decide +kernel
theorem dX0_seatsAgainst_48 : decode cX0_seatsAgainst 48 = .ok (.ifCond .eq 15, 3) := by decide +kernel
theorem dX0_seatsAgainst_51 : decode cX0_seatsAgainst 51 = .ok (.iload_n 3, 1) := by decide +kernel
theorem dX0_seatsAgainst_52 : decode cX0_seatsAgainst 52 = .ok (.iconst 1, 1) := by decide +kernel
theorem dX0_seatsAgainst_53 : decode cX0_seatsAgainst 53 = .ok (.iload 4, 2) := by decide +kernel
theorem dX0_seatsAgainst_55 : decode cX0_seatsAgainst 55 = .ok (.iload 5, 2) := by decide +kernel
theorem dX0_seatsAgainst_57 : decode cX0_seatsAgainst 57 = .ok (.invokestatic 32, 3) := by decide +kernel
theorem dX0_seatsAgainst_60 : decode cX0_seatsAgainst 60 = .ok (.ishl, 1) := by decide +kernel
theorem dX0_seatsAgainst_61 : decode cX0_seatsAgainst 61 = .ok (.ior, 1) := by decide +kernel
theorem dX0_seatsAgainst_62 : decode cX0_seatsAgainst 62 = .ok (.istore_n 3, 1) := by decide +kernel
theorem dX0_seatsAgainst_63 : decode cX0_seatsAgainst 63 = .ok (.iinc 5 1, 3) := by decide +kernel
theorem dX0_seatsAgainst_66 : decode cX0_seatsAgainst 66 = .ok (.goto (-46), 3) := by decide +kernel
theorem dX0_seatsAgainst_69 : decode cX0_seatsAgainst 69 = .ok (.iinc 4 1, 3) := by decide +kernel
theorem dX0_seatsAgainst_72 : decode cX0_seatsAgainst 72 = .ok (.goto (-67), 3) := by decide +kernel
theorem dX0_seatsAgainst_75 : decode cX0_seatsAgainst 75 = .ok (.iload_n 3, 1) := by decide +kernel
theorem dX0_seatsAgainst_76 : decode cX0_seatsAgainst 76 = .ok (.ireturn, 1) := by decide +kernel
theorem dX0_kind_0 : decode cX0_kind 0 = .ok (.aload_n 0, 1) := by decide +kernel
theorem dX0_kind_1 : decode cX0_kind 1 = .ok (.getfield 15, 3) := by decide +kernel
theorem dX0_kind_4 : decode cX0_kind 4 = .ok (.iload_n 1, 1) := by decide +kernel
theorem dX0_kind_5 : decode cX0_kind 5 = .ok (.iload_n 2, 1) := by decide +kernel
theorem dX0_kind_6 : decode cX0_kind 6 = .ok (.invokevirtual 43, 3) := by decide +kernel
theorem dX0_kind_9 : decode cX0_kind 9 = .ok (.ifCond .eq 16, 3) := by decide +kernel
theorem dX0_kind_12 : decode cX0_kind 12 = .ok (.aload_n 0, 1) := by decide +kernel
theorem dX0_kind_13 : decode cX0_kind 13 = .ok (.getfield 15, 3) := by decide +kernel
theorem dX0_kind_16 : decode cX0_kind 16 = .ok (.iload_n 3, 1) := by decide +kernel
theorem dX0_kind_17 : decode cX0_kind 17 = .ok (.iload 4, 2) := by decide +kernel
theorem dX0_kind_19 : decode cX0_kind 19 = .ok (.invokevirtual 43, 3) := by decide +kernel
theorem dX0_kind_22 : decode cX0_kind 22 = .ok (.ifCond .ne 5, 3) := by decide +kernel
theorem dX0_kind_25 : decode cX0_kind 25 = .ok (.iconst 0, 1) := by decide +kernel
theorem dX0_kind_26 : decode cX0_kind 26 = .ok (.ireturn, 1) := by decide +kernel
theorem dX0_kind_27 : decode cX0_kind 27 = .ok (.iload_n 2, 1) := by decide +kernel
theorem dX0_kind_28 : decode cX0_kind 28 = .ok (.iload 4, 2) := by decide +kernel
theorem dX0_kind_30 : decode cX0_kind 30 = .ok (.if_icmp .ne 17, 3) := by decide +kernel
theorem dX0_kind_33 : decode cX0_kind 33 = .ok (.aload_n 0, 1) := by decide +kernel
theorem dX0_kind_34 : decode cX0_kind 34 = .ok (.getfield 15, 3) := by decide +kernel
theorem dX0_kind_37 : decode cX0_kind 37 = .ok (.iload_n 1, 1) := by decide +kernel
theorem dX0_kind_38 : decode cX0_kind 38 = .ok (.iload_n 3, 1) := by decide +kernel
theorem dX0_kind_39 : decode cX0_kind 39 = .ok (.invokevirtual 47, 3) := by decide +kernel
theorem dX0_kind_42 : decode cX0_kind 42 = .ok (.ifCond .eq 5, 3) := by decide +kernel
theorem dX0_kind_45 : decode cX0_kind 45 = .ok (.iconst 0, 1) := by decide +kernel
theorem dX0_kind_46 : decode cX0_kind 46 = .ok (.ireturn, 1) := by decide +kernel
theorem dX0_kind_47 : decode cX0_kind 47 = .ok (.iconst 0, 1) := by decide +kernel
theorem dX0_kind_48 : decode cX0_kind 48 = .ok (.istore 5, 2) := by decide +kernel
theorem dX0_kind_50 : decode cX0_kind 50 = .ok (.iload_n 2, 1) := by decide +kernel
theorem dX0_kind_51 : decode cX0_kind 51 = .ok (.iload 4, 2) := by decide +kernel
theorem dX0_kind_53 : decode cX0_kind 53 = .ok (.if_icmp .ne 27, 3) := by decide +kernel
theorem dX0_kind_56 : decode cX0_kind 56 = .ok (.aload_n 0, 1) := by decide +kernel
theorem dX0_kind_57 : decode cX0_kind 57 = .ok (.iload_n 1, 1) := by decide +kernel
theorem dX0_kind_58 : decode cX0_kind 58 = .ok (.iload_n 3, 1) := by decide +kernel
theorem dX0_kind_59 : decode cX0_kind 59 = .ok (.invokevirtual 50, 3) := by decide +kernel
theorem dX0_kind_62 : decode cX0_kind 62 = .ok (.ifCond .ne 18, 3) := by decide +kernel
theorem dX0_kind_65 : decode cX0_kind 65 = .ok (.aload_n 0, 1) := by decide +kernel
theorem dX0_kind_66 : decode cX0_kind 66 = .ok (.iload_n 3, 1) := by decide +kernel
theorem dX0_kind_67 : decode cX0_kind 67 = .ok (.iload_n 1, 1) := by decide +kernel
theorem dX0_kind_68 : decode cX0_kind 68 = .ok (.invokevirtual 50, 3) := by decide +kernel
theorem dX0_kind_71 : decode cX0_kind 71 = .ok (.ifCond .ne 9, 3) := by decide +kernel
theorem dX0_kind_74 : decode cX0_kind 74 = .ok (.iload 5, 2) := by decide +kernel
theorem dX0_kind_76 : decode cX0_kind 76 = .ok (.iconst 1, 1) := by decide +kernel
theorem dX0_kind_77 : decode cX0_kind 77 = .ok (.ior, 1) := by decide +kernel
theorem dX0_kind_78 : decode cX0_kind 78 = .ok (.istore 5, 2) := by decide +kernel
theorem dX0_kind_80 : decode cX0_kind 80 = .ok (.aload_n 0, 1) := by decide +kernel
theorem dX0_kind_81 : decode cX0_kind 81 = .ok (.iload_n 1, 1) := by decide +kernel
theorem dX0_kind_82 : decode cX0_kind 82 = .ok (.iload_n 2, 1) := by decide +kernel
theorem dX0_kind_83 : decode cX0_kind 83 = .ok (.iload_n 3, 1) := by decide +kernel
theorem dX0_kind_84 : decode cX0_kind 84 = .ok (.iload 4, 2) := by decide +kernel
theorem dX0_kind_86 : decode cX0_kind 86 = .ok (.invokevirtual 53, 3) := by decide +kernel
theorem dX0_kind_89 : decode cX0_kind 89 = .ok (.ifCond .eq 9, 3) := by decide +kernel
theorem dX0_kind_92 : decode cX0_kind 92 = .ok (.iload 5, 2) := by decide +kernel
theorem dX0_kind_94 : decode cX0_kind 94 = .ok (.iconst 2, 1) := by decide +kernel
theorem dX0_kind_95 : decode cX0_kind 95 = .ok (.ior, 1) := by decide +kernel
theorem dX0_kind_96 : decode cX0_kind 96 = .ok (.istore 5, 2) := by decide +kernel
theorem dX0_kind_98 : decode cX0_kind 98 = .ok (.iload 5, 2) := by decide +kernel
theorem dX0_kind_100 : decode cX0_kind 100 = .ok (.ireturn, 1) := by decide +kernel
theorem dX0_isBehind_0 : decode cX0_isBehind 0 = .ok (.aload_n 0, 1) := by decide +kernel
theorem dX0_isBehind_1 : decode cX0_isBehind 1 = .ok (.getfield 19, 3) := by decide +kernel
theorem dX0_isBehind_4 : decode cX0_isBehind 4 = .ok (.getfield 57, 3) := by decide +kernel
theorem dX0_isBehind_7 : decode cX0_isBehind 7 = .ok (.iload_n 1, 1) := by decide +kernel
theorem dX0_isBehind_8 : decode cX0_isBehind 8 = .ok (.iaload, 1) := by decide +kernel
theorem dX0_isBehind_9 : decode cX0_isBehind 9 = .ok (.aload_n 0, 1) := by decide +kernel
theorem dX0_isBehind_10 : decode cX0_isBehind 10 = .ok (.getfield 19, 3) := by decide +kernel
theorem dX0_isBehind_13 : decode cX0_isBehind 13 = .ok (.getfield 62, 3) := by decide +kernel
theorem dX0_isBehind_16 : decode cX0_isBehind 16 = .ok (.iload_n 2, 1) := by decide +kernel
theorem dX0_isBehind_17 : decode cX0_isBehind 17 = .ok (.iaload, 1) := by decide +kernel
theorem dX0_isBehind_18 : decode cX0_isBehind 18 = .ok (.aload_n 0, 1) := by decide +kernel
theorem dX0_isBehind_19 : decode cX0_isBehind 19 = .ok (.getfield 15, 3) := by decide +kernel
theorem dX0_isBehind_22 : decode cX0_isBehind 22 = .ok (.getfield 65, 3) := by decide +kernel
theorem dX0_isBehind_25 : decode cX0_isBehind 25 = .ok (.iconst 1, 1) := by decide +kernel
theorem dX0_isBehind_26 : decode cX0_isBehind 26 = .ok (.invokestatic 68, 3) := by decide +kernel
theorem dX0_isBehind_29 : decode cX0_isBehind 29 = .ok (.iadd, 1) := by decide +kernel
theorem dX0_isBehind_30 : decode cX0_isBehind 30 = .ok (.if_icmp .lt 7, 3) := by decide +kernel
theorem dX0_isBehind_33 : decode cX0_isBehind 33 = .ok (.iconst 1, 1) := by decide +kernel
theorem dX0_isBehind_34 : decode cX0_isBehind 34 = .ok (.goto 4, 3) := by decide +kernel
theorem dX0_isBehind_37 : decode cX0_isBehind 37 = .ok (.iconst 0, 1) := by decide +kernel
theorem dX0_isBehind_38 : decode cX0_isBehind 38 = .ok (.ireturn, 1) := by decide +kernel
theorem dX0_shareSwitch_0 : decode cX0_shareSwitch 0 = .ok (.aload_n 0, 1) := by decide +kernel
theorem dX0_shareSwitch_1 : decode cX0_shareSwitch 1 = .ok (.getfield 15, 3) := by decide +kernel
theorem dX0_shareSwitch_4 : decode cX0_shareSwitch 4 = .ok (.iload_n 1, 1) := by decide +kernel
theorem dX0_shareSwitch_5 : decode cX0_shareSwitch 5 = .ok (.iload_n 2, 1) := by decide +kernel
theorem dX0_shareSwitch_6 : decode cX0_shareSwitch 6 = .ok (.invokevirtual 73, 3) := by decide +kernel
theorem dX0_shareSwitch_9 : decode cX0_shareSwitch 9 = .ok (.istore 5, 2) := by decide +kernel
theorem dX0_shareSwitch_11 : decode cX0_shareSwitch 11 = .ok (.aload_n 0, 1) := by decide +kernel
theorem dX0_shareSwitch_12 : decode cX0_shareSwitch 12 = .ok (.getfield 15, 3) := by decide +kernel
theorem dX0_shareSwitch_15 : decode cX0_shareSwitch 15 = .ok (.iload_n 1, 1) := by decide +kernel
theorem dX0_shareSwitch_16 : decode cX0_shareSwitch 16 = .ok (.iload_n 2, 1) := by decide +kernel
theorem dX0_shareSwitch_17 : decode cX0_shareSwitch 17 = .ok (.invokevirtual 76, 3) := by decide +kernel
theorem dX0_shareSwitch_20 : decode cX0_shareSwitch 20 = .ok (.istore 6, 2) := by decide +kernel
theorem dX0_shareSwitch_22 : decode cX0_shareSwitch 22 = .ok (.aload_n 0, 1) := by decide +kernel
theorem dX0_shareSwitch_23 : decode cX0_shareSwitch 23 = .ok (.getfield 15, 3) := by decide +kernel
theorem dX0_shareSwitch_26 : decode cX0_shareSwitch 26 = .ok (.iload_n 3, 1) := by decide +kernel
theorem dX0_shareSwitch_27 : decode cX0_shareSwitch 27 = .ok (.iload 4, 2) := by decide +kernel
theorem dX0_shareSwitch_29 : decode cX0_shareSwitch 29 = .ok (.invokevirtual 73, 3) := by decide +kernel
theorem dX0_shareSwitch_32 : decode cX0_shareSwitch 32 = .ok (.istore 7, 2) := by decide +kernel
theorem dX0_shareSwitch_34 : decode cX0_shareSwitch 34 = .ok (.aload_n 0, 1) := by decide +kernel
theorem dX0_shareSwitch_35 : decode cX0_shareSwitch 35 = .ok (.getfield 15, 3) := by decide +kernel
theorem dX0_shareSwitch_38 : decode cX0_shareSwitch 38 = .ok (.iload_n 3, 1) := by decide +kernel
theorem dX0_shareSwitch_39 : decode cX0_shareSwitch 39 = .ok (.iload 4, 2) := by decide +kernel
theorem dX0_shareSwitch_41 : decode cX0_shareSwitch 41 = .ok (.invokevirtual 76, 3) := by decide +kernel
theorem dX0_shareSwitch_44 : decode cX0_shareSwitch 44 = .ok (.istore 8, 2) := by decide +kernel
theorem dX0_shareSwitch_46 : decode cX0_shareSwitch 46 = .ok (.aload_n 0, 1) := by decide +kernel
theorem dX0_shareSwitch_47 : decode cX0_shareSwitch 47 = .ok (.getfield 19, 3) := by decide +kernel
theorem dX0_shareSwitch_50 : decode cX0_shareSwitch 50 = .ok (.getfield 57, 3) := by decide +kernel
theorem dX0_shareSwitch_53 : decode cX0_shareSwitch 53 = .ok (.iload_n 1, 1) := by decide +kernel
theorem dX0_shareSwitch_54 : decode cX0_shareSwitch 54 = .ok (.iaload, 1) := by decide +kernel
theorem dX0_shareSwitch_55 : decode cX0_shareSwitch 55 = .ok (.iconst 1, 1) := by decide +kernel
theorem dX0_shareSwitch_56 : decode cX0_shareSwitch 56 = .ok (.isub, 1) := by decide +kernel
theorem dX0_shareSwitch_57 : decode cX0_shareSwitch 57 = .ok (.istore 9, 2) := by decide +kernel
theorem dX0_shareSwitch_59 : decode cX0_shareSwitch 59 = .ok (.aload_n 0, 1) := by decide +kernel
theorem dX0_shareSwitch_60 : decode cX0_shareSwitch 60 = .ok (.getfield 19, 3) := by decide +kernel
theorem dX0_shareSwitch_63 : decode cX0_shareSwitch 63 = .ok (.getfield 57, 3) := by decide +kernel
theorem dX0_shareSwitch_66 : decode cX0_shareSwitch 66 = .ok (.iload_n 3, 1) := by decide +kernel
theorem dX0_shareSwitch_67 : decode cX0_shareSwitch 67 = .ok (.iaload, 1) := by decide +kernel
theorem dX0_shareSwitch_68 : decode cX0_shareSwitch 68 = .ok (.iconst 1, 1) := by decide +kernel
theorem dX0_shareSwitch_69 : decode cX0_shareSwitch 69 = .ok (.isub, 1) := by decide +kernel
theorem dX0_shareSwitch_70 : decode cX0_shareSwitch 70 = .ok (.istore 10, 2) := by decide +kernel
theorem dX0_shareSwitch_72 : decode cX0_shareSwitch 72 = .ok (.iload 5, 2) := by decide +kernel
theorem dX0_shareSwitch_74 : decode cX0_shareSwitch 74 = .ok (.iload 7, 2) := by decide +kernel
theorem dX0_shareSwitch_76 : decode cX0_shareSwitch 76 = .ok (.iand, 1) := by decide +kernel
theorem dX0_shareSwitch_77 : decode cX0_shareSwitch 77 = .ok (.iload 9, 2) := by decide +kernel
theorem dX0_shareSwitch_79 : decode cX0_shareSwitch 79 = .ok (.iload 10, 2) := by decide +kernel
theorem dX0_shareSwitch_81 : decode cX0_shareSwitch 81 = .ok (.invokestatic 79, 3) := by decide +kernel
theorem dX0_shareSwitch_84 : decode cX0_shareSwitch 84 = .ok (.ifCond .ne 76, 3) := by decide +kernel
theorem dX0_shareSwitch_87 : decode cX0_shareSwitch 87 = .ok (.iload 5, 2) := by decide +kernel
theorem dX0_shareSwitch_89 : decode cX0_shareSwitch 89 = .ok (.iload 8, 2) := by decide +kernel
theorem dX0_shareSwitch_91 : decode cX0_shareSwitch 91 = .ok (.iand, 1) := by decide +kernel
theorem dX0_shareSwitch_92 : decode cX0_shareSwitch 92 = .ok (.iload 9, 2) := by decide +kernel
theorem dX0_shareSwitch_94 : decode cX0_shareSwitch 94 = .ok (.aload_n 0, 1) := by decide +kernel
theorem dX0_shareSwitch_95 : decode cX0_shareSwitch 95 = .ok (.getfield 19, 3) := by decide +kernel
theorem dX0_shareSwitch_98 : decode cX0_shareSwitch 98 = .ok (.getfield 62, 3) := by decide +kernel
theorem dX0_shareSwitch_101 : decode cX0_shareSwitch 101 = .ok (.iload_n 3, 1) := by decide +kernel
theorem dX0_shareSwitch_102 : decode cX0_shareSwitch 102 = .ok (.iaload, 1) := by decide +kernel
theorem dX0_shareSwitch_103 : decode cX0_shareSwitch 103 = .ok (.invokestatic 79, 3) := by decide +kernel
theorem dX0_shareSwitch_106 : decode cX0_shareSwitch 106 = .ok (.ifCond .ne 54, 3) := by decide +kernel
theorem dX0_shareSwitch_109 : decode cX0_shareSwitch 109 = .ok (.iload 6, 2) := by decide +kernel
theorem dX0_shareSwitch_111 : decode cX0_shareSwitch 111 = .ok (.iload 7, 2) := by decide +kernel
theorem dX0_shareSwitch_113 : decode cX0_shareSwitch 113 = .ok (.iand, 1) := by decide +kernel
theorem dX0_shareSwitch_114 : decode cX0_shareSwitch 114 = .ok (.aload_n 0, 1) := by decide +kernel
theorem dX0_shareSwitch_115 : decode cX0_shareSwitch 115 = .ok (.getfield 19, 3) := by decide +kernel
theorem dX0_shareSwitch_118 : decode cX0_shareSwitch 118 = .ok (.getfield 62, 3) := by decide +kernel
theorem dX0_shareSwitch_121 : decode cX0_shareSwitch 121 = .ok (.iload_n 1, 1) := by decide +kernel
theorem dX0_shareSwitch_122 : decode cX0_shareSwitch 122 = .ok (.iaload, 1) := by decide +kernel
theorem dX0_shareSwitch_123 : decode cX0_shareSwitch 123 = .ok (.iload 10, 2) := by decide +kernel
theorem dX0_shareSwitch_125 : decode cX0_shareSwitch 125 = .ok (.invokestatic 79, 3) := by decide +kernel
theorem dX0_shareSwitch_128 : decode cX0_shareSwitch 128 = .ok (.ifCond .ne 32, 3) := by decide +kernel
theorem dX0_shareSwitch_131 : decode cX0_shareSwitch 131 = .ok (.iload 6, 2) := by decide +kernel
theorem dX0_shareSwitch_133 : decode cX0_shareSwitch 133 = .ok (.iload 8, 2) := by decide +kernel
theorem dX0_shareSwitch_135 : decode cX0_shareSwitch 135 = .ok (.iand, 1) := by decide +kernel
theorem dX0_shareSwitch_136 : decode cX0_shareSwitch 136 = .ok (.aload_n 0, 1) := by decide +kernel
theorem dX0_shareSwitch_137 : decode cX0_shareSwitch 137 = .ok (.getfield 19, 3) := by decide +kernel
theorem dX0_shareSwitch_140 : decode cX0_shareSwitch 140 = .ok (.getfield 62, 3) := by decide +kernel
theorem dX0_shareSwitch_143 : decode cX0_shareSwitch 143 = .ok (.iload_n 1, 1) := by decide +kernel
theorem dX0_shareSwitch_144 : decode cX0_shareSwitch 144 = .ok (.iaload, 1) := by decide +kernel
theorem dX0_shareSwitch_145 : decode cX0_shareSwitch 145 = .ok (.aload_n 0, 1) := by decide +kernel
theorem dX0_shareSwitch_146 : decode cX0_shareSwitch 146 = .ok (.getfield 19, 3) := by decide +kernel
theorem dX0_shareSwitch_149 : decode cX0_shareSwitch 149 = .ok (.getfield 62, 3) := by decide +kernel
theorem dX0_shareSwitch_152 : decode cX0_shareSwitch 152 = .ok (.iload_n 3, 1) := by decide +kernel
theorem dX0_shareSwitch_153 : decode cX0_shareSwitch 153 = .ok (.iaload, 1) := by decide +kernel
theorem dX0_shareSwitch_154 : decode cX0_shareSwitch 154 = .ok (.invokestatic 79, 3) := by decide +kernel
theorem dX0_shareSwitch_157 : decode cX0_shareSwitch 157 = .ok (.ifCond .eq 7, 3) := by decide +kernel
theorem dX0_shareSwitch_160 : decode cX0_shareSwitch 160 = .ok (.iconst 1, 1) := by decide +kernel
theorem dX0_shareSwitch_161 : decode cX0_shareSwitch 161 = .ok (.goto 4, 3) := by decide +kernel
theorem dX0_shareSwitch_164 : decode cX0_shareSwitch 164 = .ok (.iconst 0, 1) := by decide +kernel
theorem dX0_shareSwitch_165 : decode cX0_shareSwitch 165 = .ok (.ireturn, 1) := by decide +kernel
theorem dX0_meet_0 : decode cX0_meet 0 = .ok (.iload_n 0, 1) := by decide +kernel
theorem dX0_meet_1 : decode cX0_meet 1 = .ok (.ifCond .eq 21, 3) := by decide +kernel
theorem dX0_meet_4 : decode cX0_meet 4 = .ok (.iload_n 1, 1) := by decide +kernel
theorem dX0_meet_5 : decode cX0_meet 5 = .ok (.iload_n 2, 1) := by decide +kernel
theorem dX0_meet_6 : decode cX0_meet 6 = .ok (.isub, 1) := by decide +kernel
theorem dX0_meet_7 : decode cX0_meet 7 = .ok (.iconst 1, 1) := by decide +kernel
theorem dX0_meet_8 : decode cX0_meet 8 = .ok (.if_icmp .gt 14, 3) := by decide +kernel
theorem dX0_meet_11 : decode cX0_meet 11 = .ok (.iload_n 2, 1) := by decide +kernel
theorem dX0_meet_12 : decode cX0_meet 12 = .ok (.iload_n 1, 1) := by decide +kernel
theorem dX0_meet_13 : decode cX0_meet 13 = .ok (.isub, 1) := by decide +kernel
theorem dX0_meet_14 : decode cX0_meet 14 = .ok (.iconst 1, 1) := by decide +kernel
theorem dX0_meet_15 : decode cX0_meet 15 = .ok (.if_icmp .gt 7, 3) := by decide +kernel
theorem dX0_meet_18 : decode cX0_meet 18 = .ok (.iconst 1, 1) := by decide +kernel
theorem dX0_meet_19 : decode cX0_meet 19 = .ok (.goto 4, 3) := by decide +kernel
theorem dX0_meet_22 : decode cX0_meet 22 = .ok (.iconst 0, 1) := by decide +kernel
theorem dX0_meet_23 : decode cX0_meet 23 = .ok (.ireturn, 1) := by decide +kernel
theorem dX0_firstAgainst_0 : decode cX0_firstAgainst 0 = .ok (.aload_n 0, 1) := by decide +kernel
theorem dX0_firstAgainst_1 : decode cX0_firstAgainst 1 = .ok (.getfield 9, 3) := by decide +kernel
theorem dX0_firstAgainst_4 : decode cX0_firstAgainst 4 = .ok (.iload_n 1, 1) := by decide +kernel
theorem dX0_firstAgainst_5 : decode cX0_firstAgainst 5 = .ok (.iload_n 2, 1) := by decide +kernel
theorem dX0_firstAgainst_6 : decode cX0_firstAgainst 6 = .ok (.invokestatic 32, 3) := by decide +kernel
theorem dX0_firstAgainst_9 : decode cX0_firstAgainst 9 = .ok (.iaload, 1) := by decide +kernel
theorem dX0_firstAgainst_10 : decode cX0_firstAgainst 10 = .ok (.istore_n 3, 1) := by decide +kernel
theorem dX0_firstAgainst_11 : decode cX0_firstAgainst 11 = .ok (.iconst 0, 1) := by decide +kernel
theorem dX0_firstAgainst_12 : decode cX0_firstAgainst 12 = .ok (.istore 4, 2) := by decide +kernel
theorem dX0_firstAgainst_14 : decode cX0_firstAgainst 14 = .ok (.iload 4, 2) := by decide +kernel
theorem dX0_firstAgainst_16 : decode cX0_firstAgainst 16 = .ok (.aload_n 0, 1) := by decide +kernel
theorem dX0_firstAgainst_17 : decode cX0_firstAgainst 17 = .ok (.getfield 15, 3) := by decide +kernel
theorem dX0_firstAgainst_20 : decode cX0_firstAgainst 20 = .ok (.getfield 23, 3) := by decide +kernel
theorem dX0_firstAgainst_23 : decode cX0_firstAgainst 23 = .ok (.if_icmp .ge 45, 3) := by decide +kernel
theorem dX0_firstAgainst_26 : decode cX0_firstAgainst 26 = .ok (.aload_n 0, 1) := by decide +kernel
theorem dX0_firstAgainst_27 : decode cX0_firstAgainst 27 = .ok (.getfield 19, 3) := by decide +kernel
theorem dX0_firstAgainst_30 : decode cX0_firstAgainst 30 = .ok (.getfield 83, 3) := by decide +kernel
theorem dX0_firstAgainst_33 : decode cX0_firstAgainst 33 = .ok (.iload 4, 2) := by decide +kernel
theorem dX0_firstAgainst_35 : decode cX0_firstAgainst 35 = .ok (.iaload, 1) := by decide +kernel
theorem dX0_firstAgainst_36 : decode cX0_firstAgainst 36 = .ok (.istore 5, 2) := by decide +kernel
theorem dX0_firstAgainst_38 : decode cX0_firstAgainst 38 = .ok (.iload 5, 2) := by decide +kernel
theorem dX0_firstAgainst_40 : decode cX0_firstAgainst 40 = .ok (.bipush (-4), 2) := by decide +kernel
theorem dX0_firstAgainst_42 : decode cX0_firstAgainst 42 = .ok (.if_icmp .eq 20, 3) := by decide +kernel
theorem dX0_firstAgainst_45 : decode cX0_firstAgainst 45 = .ok (.iload_n 3, 1) := by decide +kernel
theorem dX0_firstAgainst_46 : decode cX0_firstAgainst 46 = .ok (.iload 4, 2) := by decide +kernel
theorem dX0_firstAgainst_48 : decode cX0_firstAgainst 48 = .ok (.iload 5, 2) := by decide +kernel
theorem dX0_firstAgainst_50 : decode cX0_firstAgainst 50 = .ok (.invokestatic 32, 3) := by decide +kernel
theorem dX0_firstAgainst_53 : decode cX0_firstAgainst 53 = .ok (.ishr, 1) := by decide +kernel
theorem dX0_firstAgainst_54 : decode cX0_firstAgainst 54 = .ok (.iconst 1, 1) := by decide +kernel
theorem dX0_firstAgainst_55 : decode cX0_firstAgainst 55 = .ok (.iand, 1) := by decide +kernel
theorem dX0_firstAgainst_56 : decode cX0_firstAgainst 56 = .ok (.ifCond .eq 6, 3) := by decide +kernel
theorem dX0_firstAgainst_59 : decode cX0_firstAgainst 59 = .ok (.iload 4, 2) := by decide +kernel
theorem dX0_firstAgainst_61 : decode cX0_firstAgainst 61 = .ok (.ireturn, 1) := by decide +kernel
theorem dX0_firstAgainst_62 : decode cX0_firstAgainst 62 = .ok (.iinc 4 1, 3) := by decide +kernel
theorem dX0_firstAgainst_65 : decode cX0_firstAgainst 65 = .ok (.goto (-51), 3) := by decide +kernel
theorem dX0_firstAgainst_68 : decode cX0_firstAgainst 68 = .ok (.bipush (-4), 2) := by decide +kernel
theorem dX0_firstAgainst_70 : decode cX0_firstAgainst 70 = .ok (.ireturn, 1) := by decide +kernel
theorem dX0_isFree_0 : decode cX0_isFree 0 = .ok (.aload_n 0, 1) := by decide +kernel
theorem dX0_isFree_1 : decode cX0_isFree 1 = .ok (.getfield 15, 3) := by decide +kernel
theorem dX0_isFree_4 : decode cX0_isFree 4 = .ok (.iload_n 1, 1) := by decide +kernel
theorem dX0_isFree_5 : decode cX0_isFree 5 = .ok (.iload_n 2, 1) := by decide +kernel
theorem dX0_isFree_6 : decode cX0_isFree 6 = .ok (.invokevirtual 43, 3) := by decide +kernel
theorem dX0_isFree_9 : decode cX0_isFree 9 = .ok (.ifCond .eq 18, 3) := by decide +kernel
theorem dX0_isFree_12 : decode cX0_isFree 12 = .ok (.aload_n 0, 1) := by decide +kernel
theorem dX0_isFree_13 : decode cX0_isFree 13 = .ok (.iload_n 1, 1) := by decide +kernel
theorem dX0_isFree_14 : decode cX0_isFree 14 = .ok (.iload_n 2, 1) := by decide +kernel
theorem dX0_isFree_15 : decode cX0_isFree 15 = .ok (.invokevirtual 86, 3) := by decide +kernel
theorem dX0_isFree_18 : decode cX0_isFree 18 = .ok (.bipush (-4), 2) := by decide +kernel
theorem dX0_isFree_20 : decode cX0_isFree 20 = .ok (.if_icmp .ne 7, 3) := by decide +kernel
theorem dX0_isFree_23 : decode cX0_isFree 23 = .ok (.iconst 1, 1) := by decide +kernel
theorem dX0_isFree_24 : decode cX0_isFree 24 = .ok (.goto 4, 3) := by decide +kernel
theorem dX0_isFree_27 : decode cX0_isFree 27 = .ok (.iconst 0, 1) := by decide +kernel
theorem dX0_isFree_28 : decode cX0_isFree 28 = .ok (.ireturn, 1) := by decide +kernel
theorem dX0_freeTracks_0 : decode cX0_freeTracks 0 = .ok (.iconst 0, 1) := by decide +kernel
theorem dX0_freeTracks_1 : decode cX0_freeTracks 1 = .ok (.istore_n 2, 1) := by decide +kernel
theorem dX0_freeTracks_2 : decode cX0_freeTracks 2 = .ok (.iconst 0, 1) := by decide +kernel
theorem dX0_freeTracks_3 : decode cX0_freeTracks 3 = .ok (.istore_n 3, 1) := by decide +kernel
theorem dX0_freeTracks_4 : decode cX0_freeTracks 4 = .ok (.iload_n 3, 1) := by decide +kernel
theorem dX0_freeTracks_5 : decode cX0_freeTracks 5 = .ok (.aload_n 0, 1) := by decide +kernel
theorem dX0_freeTracks_6 : decode cX0_freeTracks 6 = .ok (.getfield 15, 3) := by decide +kernel
theorem dX0_freeTracks_9 : decode cX0_freeTracks 9 = .ok (.getfield 29, 3) := by decide +kernel
theorem dX0_freeTracks_12 : decode cX0_freeTracks 12 = .ok (.if_icmp .ge 21, 3) := by decide +kernel
theorem dX0_freeTracks_15 : decode cX0_freeTracks 15 = .ok (.aload_n 0, 1) := by decide +kernel
theorem dX0_freeTracks_16 : decode cX0_freeTracks 16 = .ok (.iload_n 1, 1) := by decide +kernel
theorem dX0_freeTracks_17 : decode cX0_freeTracks 17 = .ok (.iload_n 3, 1) := by decide +kernel
theorem dX0_freeTracks_18 : decode cX0_freeTracks 18 = .ok (.invokevirtual 89, 3) := by decide +kernel
theorem dX0_freeTracks_21 : decode cX0_freeTracks 21 = .ok (.ifCond .eq 6, 3) := by decide +kernel
theorem dX0_freeTracks_24 : decode cX0_freeTracks 24 = .ok (.iinc 2 1, 3) := by decide +kernel
theorem dX0_freeTracks_27 : decode cX0_freeTracks 27 = .ok (.iinc 3 1, 3) := by decide +kernel
theorem dX0_freeTracks_30 : decode cX0_freeTracks 30 = .ok (.goto (-26), 3) := by decide +kernel
theorem dX0_freeTracks_33 : decode cX0_freeTracks 33 = .ok (.iload_n 2, 1) := by decide +kernel
theorem dX0_freeTracks_34 : decode cX0_freeTracks 34 = .ok (.ireturn, 1) := by decide +kernel
theorem dX1_init_0 : decode cX1_init 0 = .ok (.aload_n 0, 1) := by decide +kernel
theorem dX1_init_1 : decode cX1_init 1 = .ok (.invokespecial 3, 3) := by decide +kernel
theorem dX1_init_4 : decode cX1_init 4 = .ok (.aload_n 0, 1) := by decide +kernel
theorem dX1_init_5 : decode cX1_init 5 = .ok (.bipush 6, 2) := by decide +kernel
theorem dX1_init_7 : decode cX1_init 7 = .ok (.anewarray 9, 3) := by decide +kernel
theorem dX1_init_10 : decode cX1_init 10 = .ok (.putfield 11, 3) := by decide +kernel
theorem dX1_init_13 : decode cX1_init 13 = .ok (.aload_n 0, 1) := by decide +kernel
theorem dX1_init_14 : decode cX1_init 14 = .ok (.iconst 0, 1) := by decide +kernel
theorem dX1_init_15 : decode cX1_init 15 = .ok (.putfield 17, 3) := by decide +kernel
theorem dX1_init_18 : decode cX1_init 18 = .ok (.aload_n 0, 1) := by decide +kernel
theorem dX1_init_19 : decode cX1_init 19 = .ok (.iconst 0, 1) := by decide +kernel
theorem dX1_init_20 : decode cX1_init 20 = .ok (.putfield 21, 3) := by decide +kernel
theorem dX1_init_23 : decode cX1_init 23 = .ok (.iconst 0, 1) := by decide +kernel
theorem dX1_init_24 : decode cX1_init 24 = .ok (.istore_n 1, 1) := by decide +kernel
theorem dX1_init_25 : decode cX1_init 25 = .ok (.iload_n 1, 1) := by decide +kernel
theorem dX1_init_26 : decode cX1_init 26 = .ok (.bipush 6, 2) := by decide +kernel
theorem dX1_init_28 : decode cX1_init 28 = .ok (.if_icmp .ge 22, 3) := by decide +kernel
theorem dX1_init_31 : decode cX1_init 31 = .ok (.aload_n 0, 1) := by decide +kernel
theorem dX1_init_32 : decode cX1_init 32 = .ok (.getfield 11, 3) := by decide +kernel
theorem dX1_init_35 : decode cX1_init 35 = .ok (.iload_n 1, 1) := by decide +kernel
theorem dX1_init_36 : decode cX1_init 36 = .ok (.new 9, 3) := by decide +kernel
theorem dX1_init_39 : decode cX1_init 39 = .ok (.dup, 1) := by decide +kernel
theorem dX1_init_40 : decode cX1_init 40 = .ok (.invokespecial 24, 3) := by decide +kernel
theorem dX1_init_43 : decode cX1_init 43 = .ok (.aastore, 1) := by decide +kernel
theorem dX1_init_44 : decode cX1_init 44 = .ok (.iinc 1 1, 3) := by decide +kernel
theorem dX1_init_47 : decode cX1_init 47 = .ok (.goto (-22), 3) := by decide +kernel
theorem dX1_init_50 : decode cX1_init 50 = .ok (.return_, 1) := by decide +kernel
theorem dX1_keep_0 : decode cX1_keep 0 = .ok (.aload_n 0, 1) := by decide +kernel
theorem dX1_keep_1 : decode cX1_keep 1 = .ok (.getfield 11, 3) := by decide +kernel
theorem dX1_keep_4 : decode cX1_keep 4 = .ok (.aload_n 0, 1) := by decide +kernel
theorem dX1_keep_5 : decode cX1_keep 5 = .ok (.getfield 17, 3) := by decide +kernel
theorem dX1_keep_8 : decode cX1_keep 8 = .ok (.aaload, 1) := by decide +kernel
theorem dX1_keep_9 : decode cX1_keep 9 = .ok (.aload_n 1, 1) := by decide +kernel
theorem dX1_keep_10 : decode cX1_keep 10 = .ok (.invokevirtual 25, 3) := by decide +kernel
theorem dX1_keep_13 : decode cX1_keep 13 = .ok (.aload_n 0, 1) := by decide +kernel
theorem dX1_keep_14 : decode cX1_keep 14 = .ok (.aload_n 0, 1) := by decide +kernel
theorem dX1_keep_15 : decode cX1_keep 15 = .ok (.getfield 17, 3) := by decide +kernel
theorem dX1_keep_18 : decode cX1_keep 18 = .ok (.iconst 5, 1) := by decide +kernel
theorem dX1_keep_19 : decode cX1_keep 19 = .ok (.if_icmp .ne 7, 3) := by decide +kernel
theorem dX1_keep_22 : decode cX1_keep 22 = .ok (.iconst 0, 1) := by decide +kernel
theorem dX1_keep_23 : decode cX1_keep 23 = .ok (.goto 9, 3) := by decide +kernel
theorem dX1_keep_26 : decode cX1_keep 26 = .ok (.aload_n 0, 1) := by decide +kernel
theorem dX1_keep_27 : decode cX1_keep 27 = .ok (.getfield 17, 3) := by decide +kernel
theorem dX1_keep_30 : decode cX1_keep 30 = .ok (.iconst 1, 1) := by decide +kernel
theorem dX1_keep_31 : decode cX1_keep 31 = .ok (.iadd, 1) := by decide +kernel
theorem dX1_keep_32 : decode cX1_keep 32 = .ok (.putfield 17, 3) := by decide +kernel
theorem dX1_keep_35 : decode cX1_keep 35 = .ok (.aload_n 0, 1) := by decide +kernel
theorem dX1_keep_36 : decode cX1_keep 36 = .ok (.aload_n 0, 1) := by decide +kernel
theorem dX1_keep_37 : decode cX1_keep 37 = .ok (.getfield 21, 3) := by decide +kernel
theorem dX1_keep_40 : decode cX1_keep 40 = .ok (.iconst 1, 1) := by decide +kernel
theorem dX1_keep_41 : decode cX1_keep 41 = .ok (.iadd, 1) := by decide +kernel
theorem dX1_keep_42 : decode cX1_keep 42 = .ok (.bipush 6, 2) := by decide +kernel
theorem dX1_keep_44 : decode cX1_keep 44 = .ok (.invokestatic 29, 3) := by decide +kernel
theorem dX1_keep_47 : decode cX1_keep 47 = .ok (.putfield 21, 3) := by decide +kernel
theorem dX1_keep_50 : decode cX1_keep 50 = .ok (.return_, 1) := by decide +kernel
theorem dX1_bringBack_0 : decode cX1_bringBack 0 = .ok (.aload_n 0, 1) := by decide +kernel
theorem dX1_bringBack_1 : decode cX1_bringBack 1 = .ok (.aload_n 0, 1) := by decide +kernel
theorem dX1_bringBack_2 : decode cX1_bringBack 2 = .ok (.getfield 17, 3) := by decide +kernel
theorem dX1_bringBack_5 : decode cX1_bringBack 5 = .ok (.ifCond .ne 7, 3) := by decide +kernel
theorem dX1_bringBack_8 : decode cX1_bringBack 8 = .ok (.iconst 5, 1) := by decide +kernel
theorem dX1_bringBack_9 : decode cX1_bringBack 9 = .ok (.goto 9, 3) := by decide +kernel
theorem dX1_bringBack_12 : decode cX1_bringBack 12 = .ok (.aload_n 0, 1) := by decide +kernel
theorem dX1_bringBack_13 : decode cX1_bringBack 13 = .ok (.getfield 17, 3) := by decide +kernel
theorem dX1_bringBack_16 : decode cX1_bringBack 16 = .ok (.iconst 1, 1) := by decide +kernel
theorem dX1_bringBack_17 : decode cX1_bringBack 17 = .ok (.isub, 1) := by decide +kernel
theorem dX1_bringBack_18 : decode cX1_bringBack 18 = .ok (.putfield 17, 3) := by decide +kernel
theorem dX1_bringBack_21 : decode cX1_bringBack 21 = .ok (.aload_n 0, 1) := by decide +kernel
theorem dX1_bringBack_22 : decode cX1_bringBack 22 = .ok (.dup, 1) := by decide +kernel
theorem dX1_bringBack_23 : decode cX1_bringBack 23 = .ok (.getfield 21, 3) := by decide +kernel
theorem dX1_bringBack_26 : decode cX1_bringBack 26 = .ok (.iconst 1, 1) := by decide +kernel
theorem dX1_bringBack_27 : decode cX1_bringBack 27 = .ok (.isub, 1) := by decide +kernel
theorem dX1_bringBack_28 : decode cX1_bringBack 28 = .ok (.putfield 21, 3) := by decide +kernel
theorem dX1_bringBack_31 : decode cX1_bringBack 31 = .ok (.aload_n 1, 1) := by decide +kernel
theorem dX1_bringBack_32 : decode cX1_bringBack 32 = .ok (.aload_n 0, 1) := by decide +kernel
theorem dX1_bringBack_33 : decode cX1_bringBack 33 = .ok (.getfield 11, 3) := by decide +kernel
theorem dX1_bringBack_36 : decode cX1_bringBack 36 = .ok (.aload_n 0, 1) := by decide +kernel
theorem dX1_bringBack_37 : decode cX1_bringBack 37 = .ok (.getfield 17, 3) := by decide +kernel
theorem dX1_bringBack_40 : decode cX1_bringBack 40 = .ok (.aaload, 1) := by decide +kernel
theorem dX1_bringBack_41 : decode cX1_bringBack 41 = .ok (.invokevirtual 25, 3) := by decide +kernel
theorem dX1_bringBack_44 : decode cX1_bringBack 44 = .ok (.return_, 1) := by decide +kernel
theorem dX2_init_0 : decode cX2_init 0 = .ok (.aload_n 0, 1) := by decide +kernel
theorem dX2_init_1 : decode cX2_init 1 = .ok (.invokespecial 3, 3) := by decide +kernel
theorem dX2_init_4 : decode cX2_init 4 = .ok (.aload_n 0, 1) := by decide +kernel
theorem dX2_init_5 : decode cX2_init 5 = .ok (.bipush 7, 2) := by decide +kernel
theorem dX2_init_7 : decode cX2_init 7 = .ok (.newarray .int, 2) := by decide +kernel
theorem dX2_init_9 : decode cX2_init 9 = .ok (.putfield 9, 3) := by decide +kernel
theorem dX2_init_12 : decode cX2_init 12 = .ok (.aload_n 0, 1) := by decide +kernel
theorem dX2_init_13 : decode cX2_init 13 = .ok (.bipush 7, 2) := by decide +kernel
theorem dX2_init_15 : decode cX2_init 15 = .ok (.newarray .int, 2) := by decide +kernel
theorem dX2_init_17 : decode cX2_init 17 = .ok (.putfield 15, 3) := by decide +kernel
theorem dX2_init_20 : decode cX2_init 20 = .ok (.aload_n 0, 1) := by decide +kernel
theorem dX2_init_21 : decode cX2_init 21 = .ok (.bipush 7, 2) := by decide +kernel
theorem dX2_init_23 : decode cX2_init 23 = .ok (.newarray .int, 2) := by decide +kernel
theorem dX2_init_25 : decode cX2_init 25 = .ok (.putfield 18, 3) := by decide +kernel
theorem dX2_init_28 : decode cX2_init 28 = .ok (.aload_n 0, 1) := by decide +kernel
theorem dX2_init_29 : decode cX2_init 29 = .ok (.bipush 7, 2) := by decide +kernel
theorem dX2_init_31 : decode cX2_init 31 = .ok (.newarray .int, 2) := by decide +kernel
theorem dX2_init_33 : decode cX2_init 33 = .ok (.putfield 21, 3) := by decide +kernel
theorem dX2_init_36 : decode cX2_init 36 = .ok (.return_, 1) := by decide +kernel
theorem dX2_copy_0 : decode cX2_copy 0 = .ok (.aload_n 1, 1) := by decide +kernel
theorem dX2_copy_1 : decode cX2_copy 1 = .ok (.getfield 9, 3) := by decide +kernel
theorem dX2_copy_4 : decode cX2_copy 4 = .ok (.iconst 0, 1) := by decide +kernel
theorem dX2_copy_5 : decode cX2_copy 5 = .ok (.aload_n 0, 1) := by decide +kernel
theorem dX2_copy_6 : decode cX2_copy 6 = .ok (.getfield 9, 3) := by decide +kernel
theorem dX2_copy_9 : decode cX2_copy 9 = .ok (.iconst 0, 1) := by decide +kernel
theorem dX2_copy_10 : decode cX2_copy 10 = .ok (.bipush 7, 2) := by decide +kernel
theorem dX2_copy_12 : decode cX2_copy 12 = .ok (.invokestatic 24, 3) := by decide +kernel
theorem dX2_copy_15 : decode cX2_copy 15 = .ok (.aload_n 1, 1) := by decide +kernel
theorem dX2_copy_16 : decode cX2_copy 16 = .ok (.getfield 15, 3) := by decide +kernel
theorem dX2_copy_19 : decode cX2_copy 19 = .ok (.iconst 0, 1) := by decide +kernel
theorem dX2_copy_20 : decode cX2_copy 20 = .ok (.aload_n 0, 1) := by decide +kernel
theorem dX2_copy_21 : decode cX2_copy 21 = .ok (.getfield 15, 3) := by decide +kernel
theorem dX2_copy_24 : decode cX2_copy 24 = .ok (.iconst 0, 1) := by decide +kernel
theorem dX2_copy_25 : decode cX2_copy 25 = .ok (.bipush 7, 2) := by decide +kernel
theorem dX2_copy_27 : decode cX2_copy 27 = .ok (.invokestatic 24, 3) := by decide +kernel
theorem dX2_copy_30 : decode cX2_copy 30 = .ok (.aload_n 1, 1) := by decide +kernel
theorem dX2_copy_31 : decode cX2_copy 31 = .ok (.getfield 18, 3) := by decide +kernel
theorem dX2_copy_34 : decode cX2_copy 34 = .ok (.iconst 0, 1) := by decide +kernel
theorem dX2_copy_35 : decode cX2_copy 35 = .ok (.aload_n 0, 1) := by decide +kernel
theorem dX2_copy_36 : decode cX2_copy 36 = .ok (.getfield 18, 3) := by decide +kernel
theorem dX2_copy_39 : decode cX2_copy 39 = .ok (.iconst 0, 1) := by decide +kernel
theorem dX2_copy_40 : decode cX2_copy 40 = .ok (.bipush 7, 2) := by decide +kernel
theorem dX2_copy_42 : decode cX2_copy 42 = .ok (.invokestatic 24, 3) := by decide +kernel
theorem dX2_copy_45 : decode cX2_copy 45 = .ok (.aload_n 1, 1) := by decide +kernel
theorem dX2_copy_46 : decode cX2_copy 46 = .ok (.getfield 21, 3) := by decide +kernel
theorem dX2_copy_49 : decode cX2_copy 49 = .ok (.iconst 0, 1) := by decide +kernel
theorem dX2_copy_50 : decode cX2_copy 50 = .ok (.aload_n 0, 1) := by decide +kernel
theorem dX2_copy_51 : decode cX2_copy 51 = .ok (.getfield 21, 3) := by decide +kernel
theorem dX2_copy_54 : decode cX2_copy 54 = .ok (.iconst 0, 1) := by decide +kernel
theorem dX2_copy_55 : decode cX2_copy 55 = .ok (.bipush 7, 2) := by decide +kernel
theorem dX2_copy_57 : decode cX2_copy 57 = .ok (.invokestatic 24, 3) := by decide +kernel
theorem dX2_copy_60 : decode cX2_copy 60 = .ok (.return_, 1) := by decide +kernel
theorem dX2_comesIn_0 : decode cX2_comesIn 0 = .ok (.iload_n 2, 1) := by decide +kernel
theorem dX2_comesIn_1 : decode cX2_comesIn 1 = .ok (.aload_n 0, 1) := by decide +kernel
theorem dX2_comesIn_2 : decode cX2_comesIn 2 = .ok (.getfield 9, 3) := by decide +kernel
theorem dX2_comesIn_5 : decode cX2_comesIn 5 = .ok (.iload_n 1, 1) := by decide +kernel
theorem dX2_comesIn_6 : decode cX2_comesIn 6 = .ok (.iaload, 1) := by decide +kernel
theorem dX2_comesIn_7 : decode cX2_comesIn 7 = .ok (.iconst 1, 1) := by decide +kernel
theorem dX2_comesIn_8 : decode cX2_comesIn 8 = .ok (.isub, 1) := by decide +kernel
theorem dX2_comesIn_9 : decode cX2_comesIn 9 = .ok (.if_icmp .eq 13, 3) := by decide +kernel
theorem dX2_comesIn_12 : decode cX2_comesIn 12 = .ok (.iload_n 2, 1) := by decide +kernel
theorem dX2_comesIn_13 : decode cX2_comesIn 13 = .ok (.aload_n 0, 1) := by decide +kernel
theorem dX2_comesIn_14 : decode cX2_comesIn 14 = .ok (.getfield 9, 3) := by decide +kernel
theorem dX2_comesIn_17 : decode cX2_comesIn 17 = .ok (.iload_n 1, 1) := by decide +kernel
theorem dX2_comesIn_18 : decode cX2_comesIn 18 = .ok (.iaload, 1) := by decide +kernel
theorem dX2_comesIn_19 : decode cX2_comesIn 19 = .ok (.if_icmp .ne 7, 3) := by decide +kernel
theorem dX2_comesIn_22 : decode cX2_comesIn 22 = .ok (.iconst 1, 1) := by decide +kernel
theorem dX2_comesIn_23 : decode cX2_comesIn 23 = .ok (.goto 4, 3) := by decide +kernel
theorem dX2_comesIn_26 : decode cX2_comesIn 26 = .ok (.iconst 0, 1) := by decide +kernel
theorem dX2_comesIn_27 : decode cX2_comesIn 27 = .ok (.ireturn, 1) := by decide +kernel
theorem dX2_goesOut_0 : decode cX2_goesOut 0 = .ok (.iload_n 2, 1) := by decide +kernel
theorem dX2_goesOut_1 : decode cX2_goesOut 1 = .ok (.aload_n 0, 1) := by decide +kernel
theorem dX2_goesOut_2 : decode cX2_goesOut 2 = .ok (.getfield 15, 3) := by decide +kernel
theorem dX2_goesOut_5 : decode cX2_goesOut 5 = .ok (.iload_n 1, 1) := by decide +kernel
theorem dX2_goesOut_6 : decode cX2_goesOut 6 = .ok (.iaload, 1) := by decide +kernel
theorem dX2_goesOut_7 : decode cX2_goesOut 7 = .ok (.if_icmp .eq 15, 3) := by decide +kernel
theorem dX2_goesOut_10 : decode cX2_goesOut 10 = .ok (.iload_n 2, 1) := by decide +kernel
theorem dX2_goesOut_11 : decode cX2_goesOut 11 = .ok (.aload_n 0, 1) := by decide +kernel
theorem dX2_goesOut_12 : decode cX2_goesOut 12 = .ok (.getfield 15, 3) := by decide +kernel
theorem dX2_goesOut_15 : decode cX2_goesOut 15 = .ok (.iload_n 1, 1) := by decide +kernel
theorem dX2_goesOut_16 : decode cX2_goesOut 16 = .ok (.iaload, 1) := by decide +kernel
theorem dX2_goesOut_17 : decode cX2_goesOut 17 = .ok (.iconst 1, 1) := by decide +kernel
theorem dX2_goesOut_18 : decode cX2_goesOut 18 = .ok (.iadd, 1) := by decide +kernel
theorem dX2_goesOut_19 : decode cX2_goesOut 19 = .ok (.if_icmp .ne 7, 3) := by decide +kernel
theorem dX2_goesOut_22 : decode cX2_goesOut 22 = .ok (.iconst 1, 1) := by decide +kernel
theorem dX2_goesOut_23 : decode cX2_goesOut 23 = .ok (.goto 4, 3) := by decide +kernel
theorem dX2_goesOut_26 : decode cX2_goesOut 26 = .ok (.iconst 0, 1) := by decide +kernel
theorem dX2_goesOut_27 : decode cX2_goesOut 27 = .ok (.ireturn, 1) := by decide +kernel
theorem dX3_init_0 : decode cX3_init 0 = .ok (.aload_n 0, 1) := by decide +kernel
theorem dX3_init_1 : decode cX3_init 1 = .ok (.invokespecial 3, 3) := by decide +kernel
theorem dX3_init_4 : decode cX3_init 4 = .ok (.aload_n 0, 1) := by decide +kernel
theorem dX3_init_5 : decode cX3_init 5 = .ok (.bipush 6, 2) := by decide +kernel
theorem dX3_init_7 : decode cX3_init 7 = .ok (.newarray .int, 2) := by decide +kernel
theorem dX3_init_9 : decode cX3_init 9 = .ok (.putfield 11, 3) := by decide +kernel
theorem dX3_init_12 : decode cX3_init 12 = .ok (.aload_n 0, 1) := by decide +kernel
theorem dX3_init_13 : decode cX3_init 13 = .ok (.iconst 0, 1) := by decide +kernel
theorem dX3_init_14 : decode cX3_init 14 = .ok (.putfield 15, 3) := by decide +kernel
theorem dX3_init_17 : decode cX3_init 17 = .ok (.aload_n 0, 1) := by decide +kernel
theorem dX3_init_18 : decode cX3_init 18 = .ok (.aload_n 1, 1) := by decide +kernel
theorem dX3_init_19 : decode cX3_init 19 = .ok (.putfield 19, 3) := by decide +kernel
theorem dX3_init_22 : decode cX3_init 22 = .ok (.aload_n 0, 1) := by decide +kernel
theorem dX3_init_23 : decode cX3_init 23 = .ok (.aload_n 2, 1) := by decide +kernel
theorem dX3_init_24 : decode cX3_init 24 = .ok (.putfield 23, 3) := by decide +kernel
theorem dX3_init_27 : decode cX3_init 27 = .ok (.aload_n 0, 1) := by decide +kernel
theorem dX3_init_28 : decode cX3_init 28 = .ok (.aload_n 3, 1) := by decide +kernel
theorem dX3_init_29 : decode cX3_init 29 = .ok (.putfield 27, 3) := by decide +kernel
theorem dX3_init_32 : decode cX3_init 32 = .ok (.return_, 1) := by decide +kernel
theorem dX3_firstFault_0 : decode cX3_firstFault 0 = .ok (.aload_n 0, 1) := by decide +kernel
theorem dX3_firstFault_1 : decode cX3_firstFault 1 = .ok (.getfield 23, 3) := by decide +kernel
theorem dX3_firstFault_4 : decode cX3_firstFault 4 = .ok (.invokevirtual 31, 3) := by decide +kernel
theorem dX3_firstFault_7 : decode cX3_firstFault 7 = .ok (.iconst 0, 1) := by decide +kernel
theorem dX3_firstFault_8 : decode cX3_firstFault 8 = .ok (.istore_n 1, 1) := by decide +kernel
theorem dX3_firstFault_9 : decode cX3_firstFault 9 = .ok (.iconst 0, 1) := by decide +kernel
theorem dX3_firstFault_10 : decode cX3_firstFault 10 = .ok (.istore_n 2, 1) := by decide +kernel
theorem dX3_firstFault_11 : decode cX3_firstFault 11 = .ok (.iload_n 2, 1) := by decide +kernel
theorem dX3_firstFault_12 : decode cX3_firstFault 12 = .ok (.sipush 200, 3) := by decide +kernel
theorem dX3_firstFault_15 : decode cX3_firstFault 15 = .ok (.if_icmp .ge 66, 3) := by decide +kernel
theorem dX3_firstFault_18 : decode cX3_firstFault 18 = .ok (.iload_n 1, 1) := by decide +kernel
theorem dX3_firstFault_19 : decode cX3_firstFault 19 = .ok (.aload_n 0, 1) := by decide +kernel
theorem dX3_firstFault_20 : decode cX3_firstFault 20 = .ok (.getfield 19, 3) := by decide +kernel
theorem dX3_firstFault_23 : decode cX3_firstFault 23 = .ok (.getfield 36, 3) := by decide +kernel
theorem dX3_firstFault_26 : decode cX3_firstFault 26 = .ok (.if_icmp .ge 55, 3) := by decide +kernel
theorem dX3_firstFault_29 : decode cX3_firstFault 29 = .ok (.aload_n 0, 1) := by decide +kernel
theorem dX3_firstFault_30 : decode cX3_firstFault 30 = .ok (.iload_n 1, 1) := by decide +kernel
theorem dX3_firstFault_31 : decode cX3_firstFault 31 = .ok (.invokevirtual 41, 3) := by decide +kernel
theorem dX3_firstFault_34 : decode cX3_firstFault 34 = .ok (.istore_n 3, 1) := by decide +kernel
theorem dX3_firstFault_35 : decode cX3_firstFault 35 = .ok (.iload_n 3, 1) := by decide +kernel
theorem dX3_firstFault_36 : decode cX3_firstFault 36 = .ok (.bipush (-4), 2) := by decide +kernel
theorem dX3_firstFault_38 : decode cX3_firstFault 38 = .ok (.if_icmp .ne 8, 3) := by decide +kernel
theorem dX3_firstFault_41 : decode cX3_firstFault 41 = .ok (.bipush (-4), 2) := by decide +kernel
theorem dX3_firstFault_43 : decode cX3_firstFault 43 = .ok (.goto 10, 3) := by decide +kernel
theorem dX3_firstFault_46 : decode cX3_firstFault 46 = .ok (.aload_n 0, 1) := by decide +kernel
theorem dX3_firstFault_47 : decode cX3_firstFault 47 = .ok (.iload_n 1, 1) := by decide +kernel
theorem dX3_firstFault_48 : decode cX3_firstFault 48 = .ok (.iconst 5, 1) := by decide +kernel
theorem dX3_firstFault_49 : decode cX3_firstFault 49 = .ok (.iadd, 1) := by decide +kernel
theorem dX3_firstFault_50 : decode cX3_firstFault 50 = .ok (.invokevirtual 45, 3) := by decide +kernel
theorem dX3_firstFault_53 : decode cX3_firstFault 53 = .ok (.istore 4, 2) := by decide +kernel
theorem dX3_firstFault_55 : decode cX3_firstFault 55 = .ok (.iload 4, 2) := by decide +kernel
theorem dX3_firstFault_57 : decode cX3_firstFault 57 = .ok (.bipush (-4), 2) := by decide +kernel
theorem dX3_firstFault_59 : decode cX3_firstFault 59 = .ok (.if_icmp .eq 11, 3) := by decide +kernel
theorem dX3_firstFault_62 : decode cX3_firstFault 62 = .ok (.aload_n 0, 1) := by decide +kernel
theorem dX3_firstFault_63 : decode cX3_firstFault 63 = .ok (.iload_n 3, 1) := by decide +kernel
theorem dX3_firstFault_64 : decode cX3_firstFault 64 = .ok (.invokevirtual 48, 3) := by decide +kernel
theorem dX3_firstFault_67 : decode cX3_firstFault 67 = .ok (.ifCond .ne 5, 3) := by decide +kernel
theorem dX3_firstFault_70 : decode cX3_firstFault 70 = .ok (.iload_n 1, 1) := by decide +kernel
theorem dX3_firstFault_71 : decode cX3_firstFault 71 = .ok (.ireturn, 1) := by decide +kernel
theorem dX3_firstFault_72 : decode cX3_firstFault 72 = .ok (.iload 4, 2) := by decide +kernel
theorem dX3_firstFault_74 : decode cX3_firstFault 74 = .ok (.istore_n 1, 1) := by decide +kernel
theorem dX3_firstFault_75 : decode cX3_firstFault 75 = .ok (.iinc 2 1, 3) := by decide +kernel
theorem dX3_firstFault_78 : decode cX3_firstFault 78 = .ok (.goto (-67), 3) := by decide +kernel
theorem dX3_firstFault_81 : decode cX3_firstFault 81 = .ok (.bipush (-4), 2) := by decide +kernel
theorem dX3_firstFault_83 : decode cX3_firstFault 83 = .ok (.ireturn, 1) := by decide +kernel
theorem dX3_wordAt_0 : decode cX3_wordAt 0 = .ok (.iconst 0, 1) := by decide +kernel
theorem dX3_wordAt_1 : decode cX3_wordAt 1 = .ok (.istore_n 2, 1) := by decide +kernel
theorem dX3_wordAt_2 : decode cX3_wordAt 2 = .ok (.iload_n 2, 1) := by decide +kernel
theorem dX3_wordAt_3 : decode cX3_wordAt 3 = .ok (.iconst 5, 1) := by decide +kernel
theorem dX3_wordAt_4 : decode cX3_wordAt 4 = .ok (.if_icmp .ge 61, 3) := by decide +kernel
theorem dX3_wordAt_7 : decode cX3_wordAt 7 = .ok (.iconst 0, 1) := by decide +kernel
theorem dX3_wordAt_8 : decode cX3_wordAt 8 = .ok (.istore_n 3, 1) := by decide +kernel
theorem dX3_wordAt_9 : decode cX3_wordAt 9 = .ok (.iconst 0, 1) := by decide +kernel
theorem dX3_wordAt_10 : decode cX3_wordAt 10 = .ok (.istore 4, 2) := by decide +kernel
theorem dX3_wordAt_12 : decode cX3_wordAt 12 = .ok (.iload 4, 2) := by decide +kernel
theorem dX3_wordAt_14 : decode cX3_wordAt 14 = .ok (.iconst 5, 1) := by decide +kernel
theorem dX3_wordAt_15 : decode cX3_wordAt 15 = .ok (.if_icmp .ge 37, 3) := by decide +kernel
theorem dX3_wordAt_18 : decode cX3_wordAt 18 = .ok (.aload_n 0, 1) := by decide +kernel
theorem dX3_wordAt_19 : decode cX3_wordAt 19 = .ok (.getfield 19, 3) := by decide +kernel
theorem dX3_wordAt_22 : decode cX3_wordAt 22 = .ok (.iload_n 1, 1) := by decide +kernel
theorem dX3_wordAt_23 : decode cX3_wordAt 23 = .ok (.iload 4, 2) := by decide +kernel
theorem dX3_wordAt_25 : decode cX3_wordAt 25 = .ok (.iadd, 1) := by decide +kernel
theorem dX3_wordAt_26 : decode cX3_wordAt 26 = .ok (.invokevirtual 52, 3) := by decide +kernel
theorem dX3_wordAt_29 : decode cX3_wordAt 29 = .ok (.ldc 55, 2) := by decide +kernel
theorem dX3_wordAt_31 : decode cX3_wordAt 31 = .ok (.iload_n 2, 1) := by decide +kernel
theorem dX3_wordAt_32 : decode cX3_wordAt 32 = .ok (.iconst 5, 1) := by decide +kernel
theorem dX3_wordAt_33 : decode cX3_wordAt 33 = .ok (.imul, 1) := by decide +kernel
theorem dX3_wordAt_34 : decode cX3_wordAt 34 = .ok (.iload 4, 2) := by decide +kernel
theorem dX3_wordAt_36 : decode cX3_wordAt 36 = .ok (.iadd, 1) := by decide +kernel
theorem dX3_wordAt_37 : decode cX3_wordAt 37 = .ok (.invokevirtual 57, 3) := by decide +kernel
theorem dX3_wordAt_40 : decode cX3_wordAt 40 = .ok (.if_icmp .ne 6, 3) := by decide +kernel
theorem dX3_wordAt_43 : decode cX3_wordAt 43 = .ok (.iinc 3 1, 3) := by decide +kernel
theorem dX3_wordAt_46 : decode cX3_wordAt 46 = .ok (.iinc 4 1, 3) := by decide +kernel
theorem dX3_wordAt_49 : decode cX3_wordAt 49 = .ok (.goto (-37), 3) := by decide +kernel
theorem dX3_wordAt_52 : decode cX3_wordAt 52 = .ok (.iload_n 3, 1) := by decide +kernel
theorem dX3_wordAt_53 : decode cX3_wordAt 53 = .ok (.iconst 5, 1) := by decide +kernel
theorem dX3_wordAt_54 : decode cX3_wordAt 54 = .ok (.if_icmp .ne 5, 3) := by decide +kernel
theorem dX3_wordAt_57 : decode cX3_wordAt 57 = .ok (.iload_n 2, 1) := by decide +kernel
theorem dX3_wordAt_58 : decode cX3_wordAt 58 = .ok (.ireturn, 1) := by decide +kernel
theorem dX3_wordAt_59 : decode cX3_wordAt 59 = .ok (.iinc 2 1, 3) := by decide +kernel
theorem dX3_wordAt_62 : decode cX3_wordAt 62 = .ok (.goto (-60), 3) := by decide +kernel
theorem dX3_wordAt_65 : decode cX3_wordAt 65 = .ok (.bipush (-4), 2) := by decide +kernel
theorem dX3_wordAt_67 : decode cX3_wordAt 67 = .ok (.ireturn, 1) := by decide +kernel
theorem dX3_readNumbers_0 : decode cX3_readNumbers 0 = .ok (.iload_n 1, 1) := by decide +kernel
theorem dX3_readNumbers_1 : decode cX3_readNumbers 1 = .ok (.istore_n 2, 1) := by decide +kernel
theorem dX3_readNumbers_2 : decode cX3_readNumbers 2 = .ok (.iconst 0, 1) := by decide +kernel
theorem dX3_readNumbers_3 : decode cX3_readNumbers 3 = .ok (.istore_n 3, 1) := by decide +kernel
theorem dX3_readNumbers_4 : decode cX3_readNumbers 4 = .ok (.iload_n 3, 1) := by decide +kernel
theorem dX3_readNumbers_5 : decode cX3_readNumbers 5 = .ok (.bipush 6, 2) := by decide +kernel
theorem dX3_readNumbers_7 : decode cX3_readNumbers 7 = .ok (.if_icmp .ge 113, 3) := by decide +kernel
theorem dX3_readNumbers_10 : decode cX3_readNumbers 10 = .ok (.aload_n 0, 1) := by decide +kernel
theorem dX3_readNumbers_11 : decode cX3_readNumbers 11 = .ok (.iload_n 2, 1) := by decide +kernel
theorem dX3_readNumbers_12 : decode cX3_readNumbers 12 = .ok (.invokevirtual 63, 3) := by decide +kernel
theorem dX3_readNumbers_15 : decode cX3_readNumbers 15 = .ok (.ifCond .ne 6, 3) := by decide +kernel
theorem dX3_readNumbers_18 : decode cX3_readNumbers 18 = .ok (.bipush (-4), 2) := by decide +kernel
theorem dX3_readNumbers_20 : decode cX3_readNumbers 20 = .ok (.ireturn, 1) := by decide +kernel
theorem dX3_readNumbers_21 : decode cX3_readNumbers 21 = .ok (.aload_n 0, 1) := by decide +kernel
theorem dX3_readNumbers_22 : decode cX3_readNumbers 22 = .ok (.getfield 19, 3) := by decide +kernel
theorem dX3_readNumbers_25 : decode cX3_readNumbers 25 = .ok (.iload_n 2, 1) := by decide +kernel
theorem dX3_readNumbers_26 : decode cX3_readNumbers 26 = .ok (.invokevirtual 52, 3) := by decide +kernel
theorem dX3_readNumbers_29 : decode cX3_readNumbers 29 = .ok (.bipush 48, 2) := by decide +kernel
theorem dX3_readNumbers_31 : decode cX3_readNumbers 31 = .ok (.isub, 1) := by decide +kernel
theorem dX3_readNumbers_32 : decode cX3_readNumbers 32 = .ok (.istore 4, 2) := by decide +kernel
theorem dX3_readNumbers_34 : decode cX3_readNumbers 34 = .ok (.iinc 2 1, 3) := by decide +kernel
theorem dX3_readNumbers_37 : decode cX3_readNumbers 37 = .ok (.aload_n 0, 1) := by decide +kernel
theorem dX3_readNumbers_38 : decode cX3_readNumbers 38 = .ok (.iload_n 2, 1) := by decide +kernel
theorem dX3_readNumbers_39 : decode cX3_readNumbers 39 = .ok (.invokevirtual 63, 3) := by decide +kernel
theorem dX3_readNumbers_42 : decode cX3_readNumbers 42 = .ok (.ifCond .eq 25, 3) := by decide +kernel
theorem dX3_readNumbers_45 : decode cX3_readNumbers 45 = .ok (.iload 4, 2) := by decide +kernel
theorem dX3_readNumbers_47 : decode cX3_readNumbers 47 = .ok (.bipush 10, 2) := by decide +kernel
theorem dX3_readNumbers_49 : decode cX3_readNumbers 49 = .ok (.imul, 1) := by decide +kernel
theorem dX3_readNumbers_50 : decode cX3_readNumbers 50 = .ok (.aload_n 0, 1) := by decide +kernel
theorem dX3_readNumbers_51 : decode cX3_readNumbers 51 = .ok (.getfield 19, 3) := by decide +kernel
theorem dX3_readNumbers_54 : decode cX3_readNumbers 54 = .ok (.iload_n 2, 1) := by decide +kernel
theorem dX3_readNumbers_55 : decode cX3_readNumbers 55 = .ok (.invokevirtual 52, 3) := by decide +kernel
theorem dX3_readNumbers_58 : decode cX3_readNumbers 58 = .ok (.iadd, 1) := by decide +kernel
theorem dX3_readNumbers_59 : decode cX3_readNumbers 59 = .ok (.bipush 48, 2) := by decide +kernel
theorem dX3_readNumbers_61 : decode cX3_readNumbers 61 = .ok (.isub, 1) := by decide +kernel
theorem dX3_readNumbers_62 : decode cX3_readNumbers 62 = .ok (.istore 4, 2) := by decide +kernel
theorem dX3_readNumbers_64 : decode cX3_readNumbers 64 = .ok (.iinc 2 1, 3) := by decide +kernel
theorem dX3_readNumbers_67 : decode cX3_readNumbers 67 = .ok (.aload_n 0, 1) := by decide +kernel
theorem dX3_readNumbers_68 : decode cX3_readNumbers 68 = .ok (.getfield 11, 3) := by decide +kernel
theorem dX3_readNumbers_71 : decode cX3_readNumbers 71 = .ok (.iload_n 3, 1) := by decide +kernel
theorem dX3_readNumbers_72 : decode cX3_readNumbers 72 = .ok (.iload 4, 2) := by decide +kernel
theorem dX3_readNumbers_74 : decode cX3_readNumbers 74 = .ok (.iastore, 1) := by decide +kernel
theorem dX3_readNumbers_75 : decode cX3_readNumbers 75 = .ok (.aload_n 0, 1) := by decide +kernel
theorem dX3_readNumbers_76 : decode cX3_readNumbers 76 = .ok (.iload_n 3, 1) := by decide +kernel
theorem dX3_readNumbers_77 : decode cX3_readNumbers 77 = .ok (.iconst 1, 1) := by decide +kernel
theorem dX3_readNumbers_78 : decode cX3_readNumbers 78 = .ok (.iadd, 1) := by decide +kernel
theorem dX3_readNumbers_79 : decode cX3_readNumbers 79 = .ok (.putfield 15, 3) := by decide +kernel
theorem dX3_readNumbers_82 : decode cX3_readNumbers 82 = .ok (.aload_n 0, 1) := by decide +kernel
theorem dX3_readNumbers_83 : decode cX3_readNumbers 83 = .ok (.getfield 19, 3) := by decide +kernel
theorem dX3_readNumbers_86 : decode cX3_readNumbers 86 = .ok (.iload_n 2, 1) := by decide +kernel
theorem dX3_readNumbers_87 : decode cX3_readNumbers 87 = .ok (.invokevirtual 52, 3) := by decide +kernel
theorem dX3_readNumbers_90 : decode cX3_readNumbers 90 = .ok (.istore 5, 2) := by decide +kernel
theorem dX3_readNumbers_92 : decode cX3_readNumbers 92 = .ok (.iinc 2 1, 3) := by decide +kernel
theorem dX3_readNumbers_95 : decode cX3_readNumbers 95 = .ok (.iload 5, 2) := by decide +kernel
theorem dX3_readNumbers_97 : decode cX3_readNumbers 97 = .ok (.bipush 59, 2) := by decide +kernel
theorem dX3_readNumbers_99 : decode cX3_readNumbers 99 = .ok (.if_icmp .ne 5, 3) := by decide +kernel
theorem dX3_readNumbers_102 : decode cX3_readNumbers 102 = .ok (.iload_n 2, 1) := by decide +kernel
theorem dX3_readNumbers_103 : decode cX3_readNumbers 103 = .ok (.ireturn, 1) := by decide +kernel
theorem dX3_readNumbers_104 : decode cX3_readNumbers 104 = .ok (.iload 5, 2) := by decide +kernel
theorem dX3_readNumbers_106 : decode cX3_readNumbers 106 = .ok (.bipush 44, 2) := by decide +kernel
theorem dX3_readNumbers_108 : decode cX3_readNumbers 108 = .ok (.if_icmp .eq 6, 3) := by decide +kernel
theorem dX3_readNumbers_111 : decode cX3_readNumbers 111 = .ok (.bipush (-4), 2) := by decide +kernel
theorem dX3_readNumbers_113 : decode cX3_readNumbers 113 = .ok (.ireturn, 1) := by decide +kernel
theorem dX3_readNumbers_114 : decode cX3_readNumbers 114 = .ok (.iinc 3 1, 3) := by decide +kernel
theorem dX3_readNumbers_117 : decode cX3_readNumbers 117 = .ok (.goto (-113), 3) := by decide +kernel
theorem dX3_readNumbers_120 : decode cX3_readNumbers 120 = .ok (.bipush (-4), 2) := by decide +kernel
theorem dX3_readNumbers_122 : decode cX3_readNumbers 122 = .ok (.ireturn, 1) := by decide +kernel
theorem dX3_isFigure_0 : decode cX3_isFigure 0 = .ok (.aload_n 0, 1) := by decide +kernel
theorem dX3_isFigure_1 : decode cX3_isFigure 1 = .ok (.getfield 19, 3) := by decide +kernel
theorem dX3_isFigure_4 : decode cX3_isFigure 4 = .ok (.iload_n 1, 1) := by decide +kernel
theorem dX3_isFigure_5 : decode cX3_isFigure 5 = .ok (.invokevirtual 52, 3) := by decide +kernel
theorem dX3_isFigure_8 : decode cX3_isFigure 8 = .ok (.istore_n 2, 1) := by decide +kernel
theorem dX3_isFigure_9 : decode cX3_isFigure 9 = .ok (.iload_n 2, 1) := by decide +kernel
theorem dX3_isFigure_10 : decode cX3_isFigure 10 = .ok (.bipush 48, 2) := by decide +kernel
theorem dX3_isFigure_12 : decode cX3_isFigure 12 = .ok (.if_icmp .lt 13, 3) := by decide +kernel
theorem dX3_isFigure_15 : decode cX3_isFigure 15 = .ok (.iload_n 2, 1) := by decide +kernel
theorem dX3_isFigure_16 : decode cX3_isFigure 16 = .ok (.bipush 57, 2) := by decide +kernel
theorem dX3_isFigure_18 : decode cX3_isFigure 18 = .ok (.if_icmp .gt 7, 3) := by decide +kernel
theorem dX3_isFigure_21 : decode cX3_isFigure 21 = .ok (.iconst 1, 1) := by decide +kernel
theorem dX3_isFigure_22 : decode cX3_isFigure 22 = .ok (.goto 4, 3) := by decide +kernel
theorem dX3_isFigure_25 : decode cX3_isFigure 25 = .ok (.iconst 0, 1) := by decide +kernel
theorem dX3_isFigure_26 : decode cX3_isFigure 26 = .ok (.ireturn, 1) := by decide +kernel
theorem dX3_isTold_0 : decode cX3_isTold 0 = .ok (.iload_n 1, 1) := by decide +kernel
theorem dX3_isTold_1 : decode cX3_isTold 1 = .ok (.ifCond .ne 8, 3) := by decide +kernel
theorem dX3_isTold_4 : decode cX3_isTold 4 = .ok (.aload_n 0, 1) := by decide +kernel
theorem dX3_isTold_5 : decode cX3_isTold 5 = .ok (.invokevirtual 66, 3) := by decide +kernel
theorem dX3_isTold_8 : decode cX3_isTold 8 = .ok (.ireturn, 1) := by decide +kernel
theorem dX3_isTold_9 : decode cX3_isTold 9 = .ok (.aload_n 0, 1) := by decide +kernel
theorem dX3_isTold_10 : decode cX3_isTold 10 = .ok (.getfield 23, 3) := by decide +kernel
theorem dX3_isTold_13 : decode cX3_isTold 13 = .ok (.getfield 70, 3) := by decide +kernel
theorem dX3_isTold_16 : decode cX3_isTold 16 = .ok (.ifCond .ne 5, 3) := by decide +kernel
theorem dX3_isTold_19 : decode cX3_isTold 19 = .ok (.iconst 0, 1) := by decide +kernel
theorem dX3_isTold_20 : decode cX3_isTold 20 = .ok (.ireturn, 1) := by decide +kernel
theorem dX3_isTold_21 : decode cX3_isTold 21 = .ok (.iload_n 1, 1) := by decide +kernel
theorem dX3_isTold_22 : decode cX3_isTold 22 = .ok (.tableswitch 50 1 4 #[30, 35, 40, 45], 30) := by decide +kernel
theorem dX3_isTold_52 : decode cX3_isTold 52 = .ok (.aload_n 0, 1) := by decide +kernel
theorem dX3_isTold_53 : decode cX3_isTold 53 = .ok (.invokevirtual 73, 3) := by decide +kernel
theorem dX3_isTold_56 : decode cX3_isTold 56 = .ok (.ireturn, 1) := by decide +kernel
theorem dX3_isTold_57 : decode cX3_isTold 57 = .ok (.aload_n 0, 1) := by decide +kernel
theorem dX3_isTold_58 : decode cX3_isTold 58 = .ok (.invokevirtual 76, 3) := by decide +kernel
theorem dX3_isTold_61 : decode cX3_isTold 61 = .ok (.ireturn, 1) := by decide +kernel
theorem dX3_isTold_62 : decode cX3_isTold 62 = .ok (.aload_n 0, 1) := by decide +kernel
theorem dX3_isTold_63 : decode cX3_isTold 63 = .ok (.invokevirtual 79, 3) := by decide +kernel
theorem dX3_isTold_66 : decode cX3_isTold 66 = .ok (.ireturn, 1) := by decide +kernel
theorem dX3_isTold_67 : decode cX3_isTold 67 = .ok (.aload_n 0, 1) := by decide +kernel
theorem dX3_isTold_68 : decode cX3_isTold 68 = .ok (.invokevirtual 82, 3) := by decide +kernel
theorem dX3_isTold_71 : decode cX3_isTold 71 = .ok (.ireturn, 1) := by decide +kernel
theorem dX3_isTold_72 : decode cX3_isTold 72 = .ok (.iconst 0, 1) := by decide +kernel
theorem dX3_isTold_73 : decode cX3_isTold 73 = .ok (.ireturn, 1) := by decide +kernel
theorem dX3_tellYard_0 : decode cX3_tellYard 0 = .ok (.aload_n 0, 1) := by decide +kernel
theorem dX3_tellYard_1 : decode cX3_tellYard 1 = .ok (.getfield 15, 3) := by decide +kernel
theorem dX3_tellYard_4 : decode cX3_tellYard 4 = .ok (.iconst 2, 1) := by decide +kernel
theorem dX3_tellYard_5 : decode cX3_tellYard 5 = .ok (.if_icmp .ne 13, 3) := by decide +kernel
theorem dX3_tellYard_8 : decode cX3_tellYard 8 = .ok (.aload_n 0, 1) := by decide +kernel
theorem dX3_tellYard_9 : decode cX3_tellYard 9 = .ok (.getfield 23, 3) := by decide +kernel
theorem dX3_tellYard_12 : decode cX3_tellYard 12 = .ok (.getfield 70, 3) := by decide +kernel
theorem dX3_tellYard_15 : decode cX3_tellYard 15 = .ok (.ifCond .eq 5, 3) := by decide +kernel
theorem dX3_tellYard_18 : decode cX3_tellYard 18 = .ok (.iconst 0, 1) := by decide +kernel
theorem dX3_tellYard_19 : decode cX3_tellYard 19 = .ok (.ireturn, 1) := by decide +kernel
theorem dX3_tellYard_20 : decode cX3_tellYard 20 = .ok (.aload_n 0, 1) := by decide +kernel
theorem dX3_tellYard_21 : decode cX3_tellYard 21 = .ok (.getfield 11, 3) := by decide +kernel
theorem dX3_tellYard_24 : decode cX3_tellYard 24 = .ok (.iconst 0, 1) := by decide +kernel
theorem dX3_tellYard_25 : decode cX3_tellYard 25 = .ok (.iaload, 1) := by decide +kernel
theorem dX3_tellYard_26 : decode cX3_tellYard 26 = .ok (.istore_n 1, 1) := by decide +kernel
theorem dX3_tellYard_27 : decode cX3_tellYard 27 = .ok (.aload_n 0, 1) := by decide +kernel
theorem dX3_tellYard_28 : decode cX3_tellYard 28 = .ok (.getfield 11, 3) := by decide +kernel
theorem dX3_tellYard_31 : decode cX3_tellYard 31 = .ok (.iconst 1, 1) := by decide +kernel
theorem dX3_tellYard_32 : decode cX3_tellYard 32 = .ok (.iaload, 1) := by decide +kernel
theorem dX3_tellYard_33 : decode cX3_tellYard 33 = .ok (.istore_n 2, 1) := by decide +kernel
theorem dX3_tellYard_34 : decode cX3_tellYard 34 = .ok (.iload_n 1, 1) := by decide +kernel
theorem dX3_tellYard_35 : decode cX3_tellYard 35 = .ok (.iconst 1, 1) := by decide +kernel
theorem dX3_tellYard_36 : decode cX3_tellYard 36 = .ok (.if_icmp .lt 18, 3) := by decide +kernel
theorem dX3_tellYard_39 : decode cX3_tellYard 39 = .ok (.iload_n 1, 1) := by decide +kernel
theorem dX3_tellYard_40 : decode cX3_tellYard 40 = .ok (.iconst 3, 1) := by decide +kernel
theorem dX3_tellYard_41 : decode cX3_tellYard 41 = .ok (.if_icmp .gt 13, 3) := by decide +kernel
theorem dX3_tellYard_44 : decode cX3_tellYard 44 = .ok (.iload_n 2, 1) := by decide +kernel
theorem dX3_tellYard_45 : decode cX3_tellYard 45 = .ok (.iconst 1, 1) := by decide +kernel
theorem dX3_tellYard_46 : decode cX3_tellYard 46 = .ok (.if_icmp .lt 8, 3) := by decide +kernel
theorem dX3_tellYard_49 : decode cX3_tellYard 49 = .ok (.iload_n 2, 1) := by decide +kernel
theorem dX3_tellYard_50 : decode cX3_tellYard 50 = .ok (.iconst 4, 1) := by decide +kernel
theorem dX3_tellYard_51 : decode cX3_tellYard 51 = .ok (.if_icmp .le 5, 3) := by decide +kernel
theorem dX3_tellYard_54 : decode cX3_tellYard 54 = .ok (.iconst 0, 1) := by decide +kernel
theorem dX3_tellYard_55 : decode cX3_tellYard 55 = .ok (.ireturn, 1) := by decide +kernel
theorem dX3_tellYard_56 : decode cX3_tellYard 56 = .ok (.aload_n 0, 1) := by decide +kernel
theorem dX3_tellYard_57 : decode cX3_tellYard 57 = .ok (.getfield 23, 3) := by decide +kernel
theorem dX3_tellYard_60 : decode cX3_tellYard 60 = .ok (.iload_n 1, 1) := by decide +kernel
theorem dX3_tellYard_61 : decode cX3_tellYard 61 = .ok (.putfield 70, 3) := by decide +kernel
theorem dX3_tellYard_64 : decode cX3_tellYard 64 = .ok (.aload_n 0, 1) := by decide +kernel
theorem dX3_tellYard_65 : decode cX3_tellYard 65 = .ok (.getfield 23, 3) := by decide +kernel
theorem dX3_tellYard_68 : decode cX3_tellYard 68 = .ok (.iload_n 2, 1) := by decide +kernel
theorem dX3_tellYard_69 : decode cX3_tellYard 69 = .ok (.putfield 85, 3) := by decide +kernel
theorem dX3_tellYard_72 : decode cX3_tellYard 72 = .ok (.iconst 1, 1) := by decide +kernel
theorem dX3_tellYard_73 : decode cX3_tellYard 73 = .ok (.ireturn, 1) := by decide +kernel
theorem dX3_tellPath_0 : decode cX3_tellPath 0 = .ok (.aload_n 0, 1) := by decide +kernel
theorem dX3_tellPath_1 : decode cX3_tellPath 1 = .ok (.getfield 15, 3) := by decide +kernel
theorem dX3_tellPath_4 : decode cX3_tellPath 4 = .ok (.iconst 2, 1) := by decide +kernel
theorem dX3_tellPath_5 : decode cX3_tellPath 5 = .ok (.if_icmp .lt 35, 3) := by decide +kernel
theorem dX3_tellPath_8 : decode cX3_tellPath 8 = .ok (.aload_n 0, 1) := by decide +kernel
theorem dX3_tellPath_9 : decode cX3_tellPath 9 = .ok (.getfield 23, 3) := by decide +kernel
theorem dX3_tellPath_12 : decode cX3_tellPath 12 = .ok (.aload_n 0, 1) := by decide +kernel
theorem dX3_tellPath_13 : decode cX3_tellPath 13 = .ok (.getfield 11, 3) := by decide +kernel
theorem dX3_tellPath_16 : decode cX3_tellPath 16 = .ok (.iconst 0, 1) := by decide +kernel
theorem dX3_tellPath_17 : decode cX3_tellPath 17 = .ok (.iaload, 1) := by decide +kernel
theorem dX3_tellPath_18 : decode cX3_tellPath 18 = .ok (.invokevirtual 88, 3) := by decide +kernel
theorem dX3_tellPath_21 : decode cX3_tellPath 21 = .ok (.ifCond .eq 19, 3) := by decide +kernel
theorem dX3_tellPath_24 : decode cX3_tellPath 24 = .ok (.aload_n 0, 1) := by decide +kernel
theorem dX3_tellPath_25 : decode cX3_tellPath 25 = .ok (.getfield 23, 3) := by decide +kernel
theorem dX3_tellPath_28 : decode cX3_tellPath 28 = .ok (.aload_n 0, 1) := by decide +kernel
theorem dX3_tellPath_29 : decode cX3_tellPath 29 = .ok (.getfield 11, 3) := by decide +kernel
theorem dX3_tellPath_32 : decode cX3_tellPath 32 = .ok (.iconst 1, 1) := by decide +kernel
theorem dX3_tellPath_33 : decode cX3_tellPath 33 = .ok (.iaload, 1) := by decide +kernel
theorem dX3_tellPath_34 : decode cX3_tellPath 34 = .ok (.invokevirtual 91, 3) := by decide +kernel
theorem dX3_tellPath_37 : decode cX3_tellPath 37 = .ok (.ifCond .ne 5, 3) := by decide +kernel
theorem dX3_tellPath_40 : decode cX3_tellPath 40 = .ok (.iconst 0, 1) := by decide +kernel
theorem dX3_tellPath_41 : decode cX3_tellPath 41 = .ok (.ireturn, 1) := by decide +kernel
theorem dX3_tellPath_42 : decode cX3_tellPath 42 = .ok (.iconst 0, 1) := by decide +kernel
theorem dX3_tellPath_43 : decode cX3_tellPath 43 = .ok (.istore_n 1, 1) := by decide +kernel
theorem dX3_tellPath_44 : decode cX3_tellPath 44 = .ok (.iconst 2, 1) := by decide +kernel
theorem dX3_tellPath_45 : decode cX3_tellPath 45 = .ok (.istore_n 2, 1) := by decide +kernel
theorem dX3_tellPath_46 : decode cX3_tellPath 46 = .ok (.iload_n 2, 1) := by decide +kernel
theorem dX3_tellPath_47 : decode cX3_tellPath 47 = .ok (.aload_n 0, 1) := by decide +kernel
theorem dX3_tellPath_48 : decode cX3_tellPath 48 = .ok (.getfield 15, 3) := by decide +kernel
theorem dX3_tellPath_51 : decode cX3_tellPath 51 = .ok (.if_icmp .ge 33, 3) := by decide +kernel
theorem dX3_tellPath_54 : decode cX3_tellPath 54 = .ok (.aload_n 0, 1) := by decide +kernel
theorem dX3_tellPath_55 : decode cX3_tellPath 55 = .ok (.getfield 11, 3) := by decide +kernel
theorem dX3_tellPath_58 : decode cX3_tellPath 58 = .ok (.iload_n 2, 1) := by decide +kernel
theorem dX3_tellPath_59 : decode cX3_tellPath 59 = .ok (.iaload, 1) := by decide +kernel
theorem dX3_tellPath_60 : decode cX3_tellPath 60 = .ok (.bipush 12, 2) := by decide +kernel
theorem dX3_tellPath_62 : decode cX3_tellPath 62 = .ok (.if_icmp .lt 5, 3) := by decide +kernel
theorem dX3_tellPath_65 : decode cX3_tellPath 65 = .ok (.iconst 0, 1) := by decide +kernel
theorem dX3_tellPath_66 : decode cX3_tellPath 66 = .ok (.ireturn, 1) := by decide +kernel
theorem dX3_tellPath_67 : decode cX3_tellPath 67 = .ok (.iload_n 1, 1) := by decide +kernel
theorem dX3_tellPath_68 : decode cX3_tellPath 68 = .ok (.iconst 1, 1) := by decide +kernel
theorem dX3_tellPath_69 : decode cX3_tellPath 69 = .ok (.aload_n 0, 1) := by decide +kernel
theorem dX3_tellPath_70 : decode cX3_tellPath 70 = .ok (.getfield 11, 3) := by decide +kernel
theorem dX3_tellPath_73 : decode cX3_tellPath 73 = .ok (.iload_n 2, 1) := by decide +kernel
theorem dX3_tellPath_74 : decode cX3_tellPath 74 = .ok (.iaload, 1) := by decide +kernel
theorem dX3_tellPath_75 : decode cX3_tellPath 75 = .ok (.ishl, 1) := by decide +kernel
theorem dX3_tellPath_76 : decode cX3_tellPath 76 = .ok (.ior, 1) := by decide +kernel
theorem dX3_tellPath_77 : decode cX3_tellPath 77 = .ok (.istore_n 1, 1) := by decide +kernel
theorem dX3_tellPath_78 : decode cX3_tellPath 78 = .ok (.iinc 2 1, 3) := by decide +kernel
theorem dX3_tellPath_81 : decode cX3_tellPath 81 = .ok (.goto (-35), 3) := by decide +kernel
theorem dX3_tellPath_84 : decode cX3_tellPath 84 = .ok (.aload_n 0, 1) := by decide +kernel
theorem dX3_tellPath_85 : decode cX3_tellPath 85 = .ok (.getfield 11, 3) := by decide +kernel
theorem dX3_tellPath_88 : decode cX3_tellPath 88 = .ok (.iconst 0, 1) := by decide +kernel
theorem dX3_tellPath_89 : decode cX3_tellPath 89 = .ok (.iaload, 1) := by decide +kernel
theorem dX3_tellPath_90 : decode cX3_tellPath 90 = .ok (.iconst 4, 1) := by decide +kernel
theorem dX3_tellPath_91 : decode cX3_tellPath 91 = .ok (.imul, 1) := by decide +kernel
theorem dX3_tellPath_92 : decode cX3_tellPath 92 = .ok (.aload_n 0, 1) := by decide +kernel
theorem dX3_tellPath_93 : decode cX3_tellPath 93 = .ok (.getfield 11, 3) := by decide +kernel
theorem dX3_tellPath_96 : decode cX3_tellPath 96 = .ok (.iconst 1, 1) := by decide +kernel
theorem dX3_tellPath_97 : decode cX3_tellPath 97 = .ok (.iaload, 1) := by decide +kernel
theorem dX3_tellPath_98 : decode cX3_tellPath 98 = .ok (.iadd, 1) := by decide +kernel
theorem dX3_tellPath_99 : decode cX3_tellPath 99 = .ok (.istore_n 2, 1) := by decide +kernel
theorem dX3_tellPath_100 : decode cX3_tellPath 100 = .ok (.aload_n 0, 1) := by decide +kernel
theorem dX3_tellPath_101 : decode cX3_tellPath 101 = .ok (.getfield 23, 3) := by decide +kernel
theorem dX3_tellPath_104 : decode cX3_tellPath 104 = .ok (.getfield 94, 3) := by decide +kernel
theorem dX3_tellPath_107 : decode cX3_tellPath 107 = .ok (.iload_n 2, 1) := by decide +kernel
theorem dX3_tellPath_108 : decode cX3_tellPath 108 = .ok (.iaload, 1) := by decide +kernel
theorem dX3_tellPath_109 : decode cX3_tellPath 109 = .ok (.bipush (-4), 2) := by decide +kernel
theorem dX3_tellPath_111 : decode cX3_tellPath 111 = .ok (.if_icmp .eq 5, 3) := by decide +kernel
theorem dX3_tellPath_114 : decode cX3_tellPath 114 = .ok (.iconst 0, 1) := by decide +kernel
theorem dX3_tellPath_115 : decode cX3_tellPath 115 = .ok (.ireturn, 1) := by decide +kernel
theorem dX3_tellPath_116 : decode cX3_tellPath 116 = .ok (.aload_n 0, 1) := by decide +kernel
theorem dX3_tellPath_117 : decode cX3_tellPath 117 = .ok (.getfield 23, 3) := by decide +kernel
theorem dX3_tellPath_120 : decode cX3_tellPath 120 = .ok (.getfield 94, 3) := by decide +kernel
theorem dX3_tellPath_123 : decode cX3_tellPath 123 = .ok (.iload_n 2, 1) := by decide +kernel
theorem dX3_tellPath_124 : decode cX3_tellPath 124 = .ok (.iload_n 1, 1) := by decide +kernel
theorem dX3_tellPath_125 : decode cX3_tellPath 125 = .ok (.iastore, 1) := by decide +kernel
theorem dX3_tellPath_126 : decode cX3_tellPath 126 = .ok (.iconst 1, 1) := by decide +kernel
theorem dX3_tellPath_127 : decode cX3_tellPath 127 = .ok (.ireturn, 1) := by decide +kernel
theorem dX3_tellTrain_0 : decode cX3_tellTrain 0 = .ok (.aload_n 0, 1) := by decide +kernel
theorem dX3_tellTrain_1 : decode cX3_tellTrain 1 = .ok (.getfield 23, 3) := by decide +kernel
theorem dX3_tellTrain_4 : decode cX3_tellTrain 4 = .ok (.getfield 97, 3) := by decide +kernel
theorem dX3_tellTrain_7 : decode cX3_tellTrain 7 = .ok (.istore_n 1, 1) := by decide +kernel
theorem dX3_tellTrain_8 : decode cX3_tellTrain 8 = .ok (.aload_n 0, 1) := by decide +kernel
theorem dX3_tellTrain_9 : decode cX3_tellTrain 9 = .ok (.getfield 15, 3) := by decide +kernel
theorem dX3_tellTrain_12 : decode cX3_tellTrain 12 = .ok (.iconst 5, 1) := by decide +kernel
theorem dX3_tellTrain_13 : decode cX3_tellTrain 13 = .ok (.if_icmp .ne 16, 3) := by decide +kernel
theorem dX3_tellTrain_16 : decode cX3_tellTrain 16 = .ok (.iload_n 1, 1) := by decide +kernel
theorem dX3_tellTrain_17 : decode cX3_tellTrain 17 = .ok (.bipush 7, 2) := by decide +kernel
theorem dX3_tellTrain_19 : decode cX3_tellTrain 19 = .ok (.if_icmp .ge 10, 3) := by decide +kernel
theorem dX3_tellTrain_22 : decode cX3_tellTrain 22 = .ok (.aload_n 0, 1) := by decide +kernel
theorem dX3_tellTrain_23 : decode cX3_tellTrain 23 = .ok (.invokevirtual 100, 3) := by decide +kernel
theorem dX3_tellTrain_26 : decode cX3_tellTrain 26 = .ok (.ifCond .ne 5, 3) := by decide +kernel
theorem dX3_tellTrain_29 : decode cX3_tellTrain 29 = .ok (.iconst 0, 1) := by decide +kernel
theorem dX3_tellTrain_30 : decode cX3_tellTrain 30 = .ok (.ireturn, 1) := by decide +kernel
theorem dX3_tellTrain_31 : decode cX3_tellTrain 31 = .ok (.aload_n 0, 1) := by decide +kernel
theorem dX3_tellTrain_32 : decode cX3_tellTrain 32 = .ok (.getfield 23, 3) := by decide +kernel
theorem dX3_tellTrain_35 : decode cX3_tellTrain 35 = .ok (.getfield 103, 3) := by decide +kernel
theorem dX3_tellTrain_38 : decode cX3_tellTrain 38 = .ok (.iload_n 1, 1) := by decide +kernel
theorem dX3_tellTrain_39 : decode cX3_tellTrain 39 = .ok (.aload_n 0, 1) := by decide +kernel
theorem dX3_tellTrain_40 : decode cX3_tellTrain 40 = .ok (.getfield 11, 3) := by decide +kernel
theorem dX3_tellTrain_43 : decode cX3_tellTrain 43 = .ok (.iconst 0, 1) := by decide +kernel
theorem dX3_tellTrain_44 : decode cX3_tellTrain 44 = .ok (.iaload, 1) := by decide +kernel
theorem dX3_tellTrain_45 : decode cX3_tellTrain 45 = .ok (.iastore, 1) := by decide +kernel
theorem dX3_tellTrain_46 : decode cX3_tellTrain 46 = .ok (.aload_n 0, 1) := by decide +kernel
theorem dX3_tellTrain_47 : decode cX3_tellTrain 47 = .ok (.getfield 23, 3) := by decide +kernel
theorem dX3_tellTrain_50 : decode cX3_tellTrain 50 = .ok (.getfield 106, 3) := by decide +kernel
theorem dX3_tellTrain_53 : decode cX3_tellTrain 53 = .ok (.iload_n 1, 1) := by decide +kernel
theorem dX3_tellTrain_54 : decode cX3_tellTrain 54 = .ok (.aload_n 0, 1) := by decide +kernel
theorem dX3_tellTrain_55 : decode cX3_tellTrain 55 = .ok (.getfield 11, 3) := by decide +kernel
theorem dX3_tellTrain_58 : decode cX3_tellTrain 58 = .ok (.iconst 1, 1) := by decide +kernel
theorem dX3_tellTrain_59 : decode cX3_tellTrain 59 = .ok (.iaload, 1) := by decide +kernel
theorem dX3_tellTrain_60 : decode cX3_tellTrain 60 = .ok (.iastore, 1) := by decide +kernel
theorem dX3_tellTrain_61 : decode cX3_tellTrain 61 = .ok (.aload_n 0, 1) := by decide +kernel
theorem dX3_tellTrain_62 : decode cX3_tellTrain 62 = .ok (.getfield 23, 3) := by decide +kernel
theorem dX3_tellTrain_65 : decode cX3_tellTrain 65 = .ok (.getfield 109, 3) := by decide +kernel
theorem dX3_tellTrain_68 : decode cX3_tellTrain 68 = .ok (.iload_n 1, 1) := by decide +kernel
theorem dX3_tellTrain_69 : decode cX3_tellTrain 69 = .ok (.bipush (-4), 2) := by decide +kernel
theorem dX3_tellTrain_71 : decode cX3_tellTrain 71 = .ok (.iastore, 1) := by decide +kernel
theorem dX3_tellTrain_72 : decode cX3_tellTrain 72 = .ok (.aload_n 0, 1) := by decide +kernel
theorem dX3_tellTrain_73 : decode cX3_tellTrain 73 = .ok (.getfield 27, 3) := by decide +kernel
theorem dX3_tellTrain_76 : decode cX3_tellTrain 76 = .ok (.getfield 112, 3) := by decide +kernel
theorem dX3_tellTrain_79 : decode cX3_tellTrain 79 = .ok (.iload_n 1, 1) := by decide +kernel
theorem dX3_tellTrain_80 : decode cX3_tellTrain 80 = .ok (.aload_n 0, 1) := by decide +kernel
theorem dX3_tellTrain_81 : decode cX3_tellTrain 81 = .ok (.getfield 11, 3) := by decide +kernel
theorem dX3_tellTrain_84 : decode cX3_tellTrain 84 = .ok (.iconst 2, 1) := by decide +kernel
theorem dX3_tellTrain_85 : decode cX3_tellTrain 85 = .ok (.iaload, 1) := by decide +kernel
theorem dX3_tellTrain_86 : decode cX3_tellTrain 86 = .ok (.iastore, 1) := by decide +kernel
theorem dX3_tellTrain_87 : decode cX3_tellTrain 87 = .ok (.aload_n 0, 1) := by decide +kernel
theorem dX3_tellTrain_88 : decode cX3_tellTrain 88 = .ok (.getfield 27, 3) := by decide +kernel
theorem dX3_tellTrain_91 : decode cX3_tellTrain 91 = .ok (.getfield 117, 3) := by decide +kernel
theorem dX3_tellTrain_94 : decode cX3_tellTrain 94 = .ok (.iload_n 1, 1) := by decide +kernel
theorem dX3_tellTrain_95 : decode cX3_tellTrain 95 = .ok (.aload_n 0, 1) := by decide +kernel
theorem dX3_tellTrain_96 : decode cX3_tellTrain 96 = .ok (.getfield 11, 3) := by decide +kernel
theorem dX3_tellTrain_99 : decode cX3_tellTrain 99 = .ok (.iconst 3, 1) := by decide +kernel
theorem dX3_tellTrain_100 : decode cX3_tellTrain 100 = .ok (.iaload, 1) := by decide +kernel
theorem dX3_tellTrain_101 : decode cX3_tellTrain 101 = .ok (.iastore, 1) := by decide +kernel
theorem dX3_tellTrain_102 : decode cX3_tellTrain 102 = .ok (.aload_n 0, 1) := by decide +kernel
theorem dX3_tellTrain_103 : decode cX3_tellTrain 103 = .ok (.getfield 27, 3) := by decide +kernel
theorem dX3_tellTrain_106 : decode cX3_tellTrain 106 = .ok (.getfield 120, 3) := by decide +kernel
theorem dX3_tellTrain_109 : decode cX3_tellTrain 109 = .ok (.iload_n 1, 1) := by decide +kernel
theorem dX3_tellTrain_110 : decode cX3_tellTrain 110 = .ok (.aload_n 0, 1) := by decide +kernel
theorem dX3_tellTrain_111 : decode cX3_tellTrain 111 = .ok (.getfield 11, 3) := by decide +kernel
theorem dX3_tellTrain_114 : decode cX3_tellTrain 114 = .ok (.iconst 4, 1) := by decide +kernel
theorem dX3_tellTrain_115 : decode cX3_tellTrain 115 = .ok (.iaload, 1) := by decide +kernel
theorem dX3_tellTrain_116 : decode cX3_tellTrain 116 = .ok (.iastore, 1) := by decide +kernel
theorem dX3_tellTrain_117 : decode cX3_tellTrain 117 = .ok (.aload_n 0, 1) := by decide +kernel
theorem dX3_tellTrain_118 : decode cX3_tellTrain 118 = .ok (.getfield 27, 3) := by decide +kernel
theorem dX3_tellTrain_121 : decode cX3_tellTrain 121 = .ok (.getfield 123, 3) := by decide +kernel
theorem dX3_tellTrain_124 : decode cX3_tellTrain 124 = .ok (.iload_n 1, 1) := by decide +kernel
theorem dX3_tellTrain_125 : decode cX3_tellTrain 125 = .ok (.bipush (-4), 2) := by decide +kernel
theorem dX3_tellTrain_127 : decode cX3_tellTrain 127 = .ok (.iastore, 1) := by decide +kernel
theorem dX3_tellTrain_128 : decode cX3_tellTrain 128 = .ok (.aload_n 0, 1) := by decide +kernel
theorem dX3_tellTrain_129 : decode cX3_tellTrain 129 = .ok (.getfield 23, 3) := by decide +kernel
theorem dX3_tellTrain_132 : decode cX3_tellTrain 132 = .ok (.dup, 1) := by decide +kernel
theorem dX3_tellTrain_133 : decode cX3_tellTrain 133 = .ok (.getfield 97, 3) := by decide +kernel
theorem dX3_tellTrain_136 : decode cX3_tellTrain 136 = .ok (.iconst 1, 1) := by decide +kernel
theorem dX3_tellTrain_137 : decode cX3_tellTrain 137 = .ok (.iadd, 1) := by decide +kernel
theorem dX3_tellTrain_138 : decode cX3_tellTrain 138 = .ok (.putfield 97, 3) := by decide +kernel
theorem dX3_tellTrain_141 : decode cX3_tellTrain 141 = .ok (.iconst 1, 1) := by decide +kernel
theorem dX3_tellTrain_142 : decode cX3_tellTrain 142 = .ok (.ireturn, 1) := by decide +kernel
theorem dX3_isTrain_0 : decode cX3_isTrain 0 = .ok (.aload_n 0, 1) := by decide +kernel
theorem dX3_isTrain_1 : decode cX3_isTrain 1 = .ok (.getfield 23, 3) := by decide +kernel
theorem dX3_isTrain_4 : decode cX3_isTrain 4 = .ok (.aload_n 0, 1) := by decide +kernel
theorem dX3_isTrain_5 : decode cX3_isTrain 5 = .ok (.getfield 11, 3) := by decide +kernel
theorem dX3_isTrain_8 : decode cX3_isTrain 8 = .ok (.iconst 0, 1) := by decide +kernel
theorem dX3_isTrain_9 : decode cX3_isTrain 9 = .ok (.iaload, 1) := by decide +kernel
theorem dX3_isTrain_10 : decode cX3_isTrain 10 = .ok (.invokevirtual 88, 3) := by decide +kernel
theorem dX3_isTrain_13 : decode cX3_isTrain 13 = .ok (.ifCond .eq 23, 3) := by decide +kernel
theorem dX3_isTrain_16 : decode cX3_isTrain 16 = .ok (.aload_n 0, 1) := by decide +kernel
theorem dX3_isTrain_17 : decode cX3_isTrain 17 = .ok (.getfield 23, 3) := by decide +kernel
theorem dX3_isTrain_20 : decode cX3_isTrain 20 = .ok (.aload_n 0, 1) := by decide +kernel
theorem dX3_isTrain_21 : decode cX3_isTrain 21 = .ok (.getfield 11, 3) := by decide +kernel
theorem dX3_isTrain_24 : decode cX3_isTrain 24 = .ok (.iconst 1, 1) := by decide +kernel
theorem dX3_isTrain_25 : decode cX3_isTrain 25 = .ok (.iaload, 1) := by decide +kernel
theorem dX3_isTrain_26 : decode cX3_isTrain 26 = .ok (.invokevirtual 88, 3) := by decide +kernel
theorem dX3_isTrain_29 : decode cX3_isTrain 29 = .ok (.ifCond .eq 7, 3) := by decide +kernel
theorem dX3_isTrain_32 : decode cX3_isTrain 32 = .ok (.iconst 1, 1) := by decide +kernel
theorem dX3_isTrain_33 : decode cX3_isTrain 33 = .ok (.goto 4, 3) := by decide +kernel
theorem dX3_isTrain_36 : decode cX3_isTrain 36 = .ok (.iconst 0, 1) := by decide +kernel
theorem dX3_isTrain_37 : decode cX3_isTrain 37 = .ok (.istore_n 1, 1) := by decide +kernel
theorem dX3_isTrain_38 : decode cX3_isTrain 38 = .ok (.aload_n 0, 1) := by decide +kernel
theorem dX3_isTrain_39 : decode cX3_isTrain 39 = .ok (.getfield 11, 3) := by decide +kernel
theorem dX3_isTrain_42 : decode cX3_isTrain 42 = .ok (.iconst 2, 1) := by decide +kernel
theorem dX3_isTrain_43 : decode cX3_isTrain 43 = .ok (.iaload, 1) := by decide +kernel
theorem dX3_isTrain_44 : decode cX3_isTrain 44 = .ok (.iconst 1, 1) := by decide +kernel
theorem dX3_isTrain_45 : decode cX3_isTrain 45 = .ok (.if_icmp .lt 33, 3) := by decide +kernel
theorem dX3_isTrain_48 : decode cX3_isTrain 48 = .ok (.aload_n 0, 1) := by decide +kernel
theorem dX3_isTrain_49 : decode cX3_isTrain 49 = .ok (.getfield 11, 3) := by decide +kernel
theorem dX3_isTrain_52 : decode cX3_isTrain 52 = .ok (.iconst 3, 1) := by decide +kernel
theorem dX3_isTrain_53 : decode cX3_isTrain 53 = .ok (.iaload, 1) := by decide +kernel
theorem dX3_isTrain_54 : decode cX3_isTrain 54 = .ok (.aload_n 0, 1) := by decide +kernel
theorem dX3_isTrain_55 : decode cX3_isTrain 55 = .ok (.getfield 11, 3) := by decide +kernel
theorem dX3_isTrain_58 : decode cX3_isTrain 58 = .ok (.iconst 2, 1) := by decide +kernel
theorem dX3_isTrain_59 : decode cX3_isTrain 59 = .ok (.iaload, 1) := by decide +kernel
theorem dX3_isTrain_60 : decode cX3_isTrain 60 = .ok (.if_icmp .lt 18, 3) := by decide +kernel
theorem dX3_isTrain_63 : decode cX3_isTrain 63 = .ok (.aload_n 0, 1) := by decide +kernel
theorem dX3_isTrain_64 : decode cX3_isTrain 64 = .ok (.getfield 11, 3) := by decide +kernel
theorem dX3_isTrain_67 : decode cX3_isTrain 67 = .ok (.iconst 3, 1) := by decide +kernel
theorem dX3_isTrain_68 : decode cX3_isTrain 68 = .ok (.iaload, 1) := by decide +kernel
theorem dX3_isTrain_69 : decode cX3_isTrain 69 = .ok (.bipush 98, 2) := by decide +kernel
theorem dX3_isTrain_71 : decode cX3_isTrain 71 = .ok (.if_icmp .gt 7, 3) := by decide +kernel
theorem dX3_isTrain_74 : decode cX3_isTrain 74 = .ok (.iconst 1, 1) := by decide +kernel
theorem dX3_isTrain_75 : decode cX3_isTrain 75 = .ok (.goto 4, 3) := by decide +kernel
theorem dX3_isTrain_78 : decode cX3_isTrain 78 = .ok (.iconst 0, 1) := by decide +kernel
theorem dX3_isTrain_79 : decode cX3_isTrain 79 = .ok (.istore_n 2, 1) := by decide +kernel
theorem dX3_isTrain_80 : decode cX3_isTrain 80 = .ok (.aload_n 0, 1) := by decide +kernel
theorem dX3_isTrain_81 : decode cX3_isTrain 81 = .ok (.getfield 11, 3) := by decide +kernel
theorem dX3_isTrain_84 : decode cX3_isTrain 84 = .ok (.iconst 4, 1) := by decide +kernel
theorem dX3_isTrain_85 : decode cX3_isTrain 85 = .ok (.iaload, 1) := by decide +kernel
theorem dX3_isTrain_86 : decode cX3_isTrain 86 = .ok (.bipush 9, 2) := by decide +kernel
theorem dX3_isTrain_88 : decode cX3_isTrain 88 = .ok (.if_icmp .eq 19, 3) := by decide +kernel
theorem dX3_isTrain_91 : decode cX3_isTrain 91 = .ok (.aload_n 0, 1) := by decide +kernel
theorem dX3_isTrain_92 : decode cX3_isTrain 92 = .ok (.getfield 23, 3) := by decide +kernel
theorem dX3_isTrain_95 : decode cX3_isTrain 95 = .ok (.aload_n 0, 1) := by decide +kernel
theorem dX3_isTrain_96 : decode cX3_isTrain 96 = .ok (.getfield 11, 3) := by decide +kernel
theorem dX3_isTrain_99 : decode cX3_isTrain 99 = .ok (.iconst 4, 1) := by decide +kernel
theorem dX3_isTrain_100 : decode cX3_isTrain 100 = .ok (.iaload, 1) := by decide +kernel
theorem dX3_isTrain_101 : decode cX3_isTrain 101 = .ok (.invokevirtual 91, 3) := by decide +kernel
theorem dX3_isTrain_104 : decode cX3_isTrain 104 = .ok (.ifCond .eq 7, 3) := by decide +kernel
theorem dX3_isTrain_107 : decode cX3_isTrain 107 = .ok (.iconst 1, 1) := by decide +kernel
theorem dX3_isTrain_108 : decode cX3_isTrain 108 = .ok (.goto 4, 3) := by decide +kernel
theorem dX3_isTrain_111 : decode cX3_isTrain 111 = .ok (.iconst 0, 1) := by decide +kernel
theorem dX3_isTrain_112 : decode cX3_isTrain 112 = .ok (.istore_n 3, 1) := by decide +kernel
theorem dX3_isTrain_113 : decode cX3_isTrain 113 = .ok (.iload_n 1, 1) := by decide +kernel
theorem dX3_isTrain_114 : decode cX3_isTrain 114 = .ok (.ifCond .eq 15, 3) := by decide +kernel
theorem dX3_isTrain_117 : decode cX3_isTrain 117 = .ok (.iload_n 2, 1) := by decide +kernel
theorem dX3_isTrain_118 : decode cX3_isTrain 118 = .ok (.ifCond .eq 11, 3) := by decide +kernel
theorem dX3_isTrain_121 : decode cX3_isTrain 121 = .ok (.iload_n 3, 1) := by decide +kernel
theorem dX3_isTrain_122 : decode cX3_isTrain 122 = .ok (.ifCond .eq 7, 3) := by decide +kernel
theorem dX3_isTrain_125 : decode cX3_isTrain 125 = .ok (.iconst 1, 1) := by decide +kernel
theorem dX3_isTrain_126 : decode cX3_isTrain 126 = .ok (.goto 4, 3) := by decide +kernel
theorem dX3_isTrain_129 : decode cX3_isTrain 129 = .ok (.iconst 0, 1) := by decide +kernel
theorem dX3_isTrain_130 : decode cX3_isTrain 130 = .ok (.ireturn, 1) := by decide +kernel
theorem dX3_tellPair_0 : decode cX3_tellPair 0 = .ok (.aload_n 0, 1) := by decide +kernel
theorem dX3_tellPair_1 : decode cX3_tellPair 1 = .ok (.getfield 11, 3) := by decide +kernel
theorem dX3_tellPair_4 : decode cX3_tellPair 4 = .ok (.iconst 0, 1) := by decide +kernel
theorem dX3_tellPair_5 : decode cX3_tellPair 5 = .ok (.iaload, 1) := by decide +kernel
theorem dX3_tellPair_6 : decode cX3_tellPair 6 = .ok (.istore_n 1, 1) := by decide +kernel
theorem dX3_tellPair_7 : decode cX3_tellPair 7 = .ok (.aload_n 0, 1) := by decide +kernel
theorem dX3_tellPair_8 : decode cX3_tellPair 8 = .ok (.getfield 11, 3) := by decide +kernel
theorem dX3_tellPair_11 : decode cX3_tellPair 11 = .ok (.iconst 1, 1) := by decide +kernel
theorem dX3_tellPair_12 : decode cX3_tellPair 12 = .ok (.iaload, 1) := by decide +kernel
theorem dX3_tellPair_13 : decode cX3_tellPair 13 = .ok (.istore_n 2, 1) := by decide +kernel
theorem dX3_tellPair_14 : decode cX3_tellPair 14 = .ok (.aload_n 0, 1) := by decide +kernel
theorem dX3_tellPair_15 : decode cX3_tellPair 15 = .ok (.getfield 15, 3) := by decide +kernel
theorem dX3_tellPair_18 : decode cX3_tellPair 18 = .ok (.iconst 2, 1) := by decide +kernel
theorem dX3_tellPair_19 : decode cX3_tellPair 19 = .ok (.if_icmp .ne 30, 3) := by decide +kernel
theorem dX3_tellPair_22 : decode cX3_tellPair 22 = .ok (.iload_n 1, 1) := by decide +kernel
theorem dX3_tellPair_23 : decode cX3_tellPair 23 = .ok (.iload_n 2, 1) := by decide +kernel
theorem dX3_tellPair_24 : decode cX3_tellPair 24 = .ok (.if_icmp .eq 25, 3) := by decide +kernel
theorem dX3_tellPair_27 : decode cX3_tellPair 27 = .ok (.aload_n 0, 1) := by decide +kernel
theorem dX3_tellPair_28 : decode cX3_tellPair 28 = .ok (.getfield 23, 3) := by decide +kernel
theorem dX3_tellPair_31 : decode cX3_tellPair 31 = .ok (.iload_n 1, 1) := by decide +kernel
theorem dX3_tellPair_32 : decode cX3_tellPair 32 = .ok (.invokevirtual 126, 3) := by decide +kernel
theorem dX3_tellPair_35 : decode cX3_tellPair 35 = .ok (.ifCond .eq 14, 3) := by decide +kernel
theorem dX3_tellPair_38 : decode cX3_tellPair 38 = .ok (.aload_n 0, 1) := by decide +kernel
theorem dX3_tellPair_39 : decode cX3_tellPair 39 = .ok (.getfield 23, 3) := by decide +kernel
theorem dX3_tellPair_42 : decode cX3_tellPair 42 = .ok (.iload_n 2, 1) := by decide +kernel
theorem dX3_tellPair_43 : decode cX3_tellPair 43 = .ok (.invokevirtual 126, 3) := by decide +kernel
theorem dX3_tellPair_46 : decode cX3_tellPair 46 = .ok (.ifCond .ne 5, 3) := by decide +kernel
theorem dX3_tellPair_49 : decode cX3_tellPair 49 = .ok (.iconst 0, 1) := by decide +kernel
theorem dX3_tellPair_50 : decode cX3_tellPair 50 = .ok (.ireturn, 1) := by decide +kernel
theorem dX3_tellPair_51 : decode cX3_tellPair 51 = .ok (.aload_n 0, 1) := by decide +kernel
theorem dX3_tellPair_52 : decode cX3_tellPair 52 = .ok (.getfield 23, 3) := by decide +kernel
theorem dX3_tellPair_55 : decode cX3_tellPair 55 = .ok (.getfield 109, 3) := by decide +kernel
theorem dX3_tellPair_58 : decode cX3_tellPair 58 = .ok (.iload_n 1, 1) := by decide +kernel
theorem dX3_tellPair_59 : decode cX3_tellPair 59 = .ok (.iaload, 1) := by decide +kernel
theorem dX3_tellPair_60 : decode cX3_tellPair 60 = .ok (.bipush (-4), 2) := by decide +kernel
theorem dX3_tellPair_62 : decode cX3_tellPair 62 = .ok (.if_icmp .ne 17, 3) := by decide +kernel
theorem dX3_tellPair_65 : decode cX3_tellPair 65 = .ok (.aload_n 0, 1) := by decide +kernel
theorem dX3_tellPair_66 : decode cX3_tellPair 66 = .ok (.getfield 23, 3) := by decide +kernel
theorem dX3_tellPair_69 : decode cX3_tellPair 69 = .ok (.getfield 109, 3) := by decide +kernel
theorem dX3_tellPair_72 : decode cX3_tellPair 72 = .ok (.iload_n 2, 1) := by decide +kernel
theorem dX3_tellPair_73 : decode cX3_tellPair 73 = .ok (.iaload, 1) := by decide +kernel
theorem dX3_tellPair_74 : decode cX3_tellPair 74 = .ok (.bipush (-4), 2) := by decide +kernel
theorem dX3_tellPair_76 : decode cX3_tellPair 76 = .ok (.if_icmp .eq 5, 3) := by decide +kernel
theorem dX3_tellPair_79 : decode cX3_tellPair 79 = .ok (.iconst 0, 1) := by decide +kernel
theorem dX3_tellPair_80 : decode cX3_tellPair 80 = .ok (.ireturn, 1) := by decide +kernel
theorem dX3_tellPair_81 : decode cX3_tellPair 81 = .ok (.aload_n 0, 1) := by decide +kernel
theorem dX3_tellPair_82 : decode cX3_tellPair 82 = .ok (.getfield 23, 3) := by decide +kernel
theorem dX3_tellPair_85 : decode cX3_tellPair 85 = .ok (.getfield 109, 3) := by decide +kernel
theorem dX3_tellPair_88 : decode cX3_tellPair 88 = .ok (.iload_n 1, 1) := by decide +kernel
theorem dX3_tellPair_89 : decode cX3_tellPair 89 = .ok (.iload_n 2, 1) := by decide +kernel
theorem dX3_tellPair_90 : decode cX3_tellPair 90 = .ok (.iastore, 1) := by decide +kernel
theorem dX3_tellPair_91 : decode cX3_tellPair 91 = .ok (.aload_n 0, 1) := by decide +kernel
theorem dX3_tellPair_92 : decode cX3_tellPair 92 = .ok (.getfield 23, 3) := by decide +kernel
theorem dX3_tellPair_95 : decode cX3_tellPair 95 = .ok (.getfield 109, 3) := by decide +kernel
theorem dX3_tellPair_98 : decode cX3_tellPair 98 = .ok (.iload_n 2, 1) := by decide +kernel
theorem dX3_tellPair_99 : decode cX3_tellPair 99 = .ok (.iload_n 1, 1) := by decide +kernel
theorem dX3_tellPair_100 : decode cX3_tellPair 100 = .ok (.iastore, 1) := by decide +kernel
theorem dX3_tellPair_101 : decode cX3_tellPair 101 = .ok (.iconst 1, 1) := by decide +kernel
theorem dX3_tellPair_102 : decode cX3_tellPair 102 = .ok (.ireturn, 1) := by decide +kernel
theorem dX3_tellGap_0 : decode cX3_tellGap 0 = .ok (.aload_n 0, 1) := by decide +kernel
theorem dX3_tellGap_1 : decode cX3_tellGap 1 = .ok (.getfield 15, 3) := by decide +kernel
theorem dX3_tellGap_4 : decode cX3_tellGap 4 = .ok (.iconst 1, 1) := by decide +kernel
theorem dX3_tellGap_5 : decode cX3_tellGap 5 = .ok (.if_icmp .ne 14, 3) := by decide +kernel
theorem dX3_tellGap_8 : decode cX3_tellGap 8 = .ok (.aload_n 0, 1) := by decide +kernel
theorem dX3_tellGap_9 : decode cX3_tellGap 9 = .ok (.getfield 11, 3) := by decide +kernel
theorem dX3_tellGap_12 : decode cX3_tellGap 12 = .ok (.iconst 0, 1) := by decide +kernel
theorem dX3_tellGap_13 : decode cX3_tellGap 13 = .ok (.iaload, 1) := by decide +kernel
theorem dX3_tellGap_14 : decode cX3_tellGap 14 = .ok (.bipush 9, 2) := by decide +kernel
theorem dX3_tellGap_16 : decode cX3_tellGap 16 = .ok (.if_icmp .le 5, 3) := by decide +kernel
theorem dX3_tellGap_19 : decode cX3_tellGap 19 = .ok (.iconst 0, 1) := by decide +kernel
theorem dX3_tellGap_20 : decode cX3_tellGap 20 = .ok (.ireturn, 1) := by decide +kernel
theorem dX3_tellGap_21 : decode cX3_tellGap 21 = .ok (.aload_n 0, 1) := by decide +kernel
theorem dX3_tellGap_22 : decode cX3_tellGap 22 = .ok (.getfield 23, 3) := by decide +kernel
theorem dX3_tellGap_25 : decode cX3_tellGap 25 = .ok (.aload_n 0, 1) := by decide +kernel
theorem dX3_tellGap_26 : decode cX3_tellGap 26 = .ok (.getfield 11, 3) := by decide +kernel
theorem dX3_tellGap_29 : decode cX3_tellGap 29 = .ok (.iconst 0, 1) := by decide +kernel
theorem dX3_tellGap_30 : decode cX3_tellGap 30 = .ok (.iaload, 1) := by decide +kernel
theorem dX3_tellGap_31 : decode cX3_tellGap 31 = .ok (.putfield 129, 3) := by decide +kernel
theorem dX3_tellGap_34 : decode cX3_tellGap 34 = .ok (.iconst 1, 1) := by decide +kernel
theorem dX3_tellGap_35 : decode cX3_tellGap 35 = .ok (.ireturn, 1) := by decide +kernel
theorem dX4_init_0 : decode cX4_init 0 = .ok (.aload_n 0, 1) := by decide +kernel
theorem dX4_init_1 : decode cX4_init 1 = .ok (.invokespecial 3, 3) := by decide +kernel
theorem dX4_init_4 : decode cX4_init 4 = .ok (.aload_n 0, 1) := by decide +kernel
theorem dX4_init_5 : decode cX4_init 5 = .ok (.bipush 35, 2) := by decide +kernel
theorem dX4_init_7 : decode cX4_init 7 = .ok (.newarray .int, 2) := by decide +kernel
theorem dX4_init_9 : decode cX4_init 9 = .ok (.putfield 11, 3) := by decide +kernel
theorem dX4_init_12 : decode cX4_init 12 = .ok (.aload_n 0, 1) := by decide +kernel
theorem dX4_init_13 : decode cX4_init 13 = .ok (.bipush 8, 2) := by decide +kernel
theorem dX4_init_15 : decode cX4_init 15 = .ok (.newarray .int, 2) := by decide +kernel
theorem dX4_init_17 : decode cX4_init 17 = .ok (.putfield 15, 3) := by decide +kernel
theorem dX4_init_20 : decode cX4_init 20 = .ok (.aload_n 0, 1) := by decide +kernel
theorem dX4_init_21 : decode cX4_init 21 = .ok (.bipush 7, 2) := by decide +kernel
theorem dX4_init_23 : decode cX4_init 23 = .ok (.newarray .int, 2) := by decide +kernel
theorem dX4_init_25 : decode cX4_init 25 = .ok (.putfield 18, 3) := by decide +kernel
theorem dX4_init_28 : decode cX4_init 28 = .ok (.aload_n 0, 1) := by decide +kernel
theorem dX4_init_29 : decode cX4_init 29 = .ok (.bipush 7, 2) := by decide +kernel
theorem dX4_init_31 : decode cX4_init 31 = .ok (.newarray .int, 2) := by decide +kernel
theorem dX4_init_33 : decode cX4_init 33 = .ok (.putfield 21, 3) := by decide +kernel
theorem dX4_init_36 : decode cX4_init 36 = .ok (.aload_n 0, 1) := by decide +kernel
theorem dX4_init_37 : decode cX4_init 37 = .ok (.sipush 1000, 3) := by decide +kernel
theorem dX4_init_40 : decode cX4_init 40 = .ok (.putfield 24, 3) := by decide +kernel
theorem dX4_init_43 : decode cX4_init 43 = .ok (.aload_n 0, 1) := by decide +kernel
theorem dX4_init_44 : decode cX4_init 44 = .ok (.aload_n 1, 1) := by decide +kernel
theorem dX4_init_45 : decode cX4_init 45 = .ok (.putfield 28, 3) := by decide +kernel
theorem dX4_init_48 : decode cX4_init 48 = .ok (.aload_n 0, 1) := by decide +kernel
theorem dX4_init_49 : decode cX4_init 49 = .ok (.aload_n 2, 1) := by decide +kernel
theorem dX4_init_50 : decode cX4_init 50 = .ok (.putfield 32, 3) := by decide +kernel
theorem dX4_init_53 : decode cX4_init 53 = .ok (.aload_n 0, 1) := by decide +kernel
theorem dX4_init_54 : decode cX4_init 54 = .ok (.aload_n 3, 1) := by decide +kernel
theorem dX4_init_55 : decode cX4_init 55 = .ok (.putfield 36, 3) := by decide +kernel
theorem dX4_init_58 : decode cX4_init 58 = .ok (.return_, 1) := by decide +kernel
theorem dX4_find_0 : decode cX4_find 0 = .ok (.aload_n 0, 1) := by decide +kernel
theorem dX4_find_1 : decode cX4_find 1 = .ok (.iload_n 1, 1) := by decide +kernel
theorem dX4_find_2 : decode cX4_find 2 = .ok (.iconst 0, 1) := by decide +kernel
theorem dX4_find_3 : decode cX4_find 3 = .ok (.invokevirtual 40, 3) := by decide +kernel
theorem dX4_find_6 : decode cX4_find 6 = .ok (.aload_n 0, 1) := by decide +kernel
theorem dX4_find_7 : decode cX4_find 7 = .ok (.invokevirtual 44, 3) := by decide +kernel
theorem dX4_find_10 : decode cX4_find 10 = .ok (.return_, 1) := by decide +kernel
theorem dX4_findAvoiding_0 : decode cX4_findAvoiding 0 = .ok (.aload_n 0, 1) := by decide +kernel
theorem dX4_findAvoiding_1 : decode cX4_findAvoiding 1 = .ok (.iconst 0, 1) := by decide +kernel
theorem dX4_findAvoiding_2 : decode cX4_findAvoiding 2 = .ok (.iload_n 1, 1) := by decide +kernel
theorem dX4_findAvoiding_3 : decode cX4_findAvoiding 3 = .ok (.invokevirtual 40, 3) := by decide +kernel
theorem dX4_findAvoiding_6 : decode cX4_findAvoiding 6 = .ok (.aload_n 0, 1) := by decide +kernel
theorem dX4_findAvoiding_7 : decode cX4_findAvoiding 7 = .ok (.invokevirtual 44, 3) := by decide +kernel
theorem dX4_findAvoiding_10 : decode cX4_findAvoiding 10 = .ok (.return_, 1) := by decide +kernel
theorem dX4_trackless_0 : decode cX4_trackless 0 = .ok (.iconst 0, 1) := by decide +kernel
theorem dX4_trackless_1 : decode cX4_trackless 1 = .ok (.istore_n 1, 1) := by decide +kernel
theorem dX4_trackless_2 : decode cX4_trackless 2 = .ok (.iconst 0, 1) := by decide +kernel
theorem dX4_trackless_3 : decode cX4_trackless 3 = .ok (.istore_n 2, 1) := by decide +kernel
theorem dX4_trackless_4 : decode cX4_trackless 4 = .ok (.iload_n 2, 1) := by decide +kernel
theorem dX4_trackless_5 : decode cX4_trackless 5 = .ok (.aload_n 0, 1) := by decide +kernel
theorem dX4_trackless_6 : decode cX4_trackless 6 = .ok (.getfield 28, 3) := by decide +kernel
theorem dX4_trackless_9 : decode cX4_trackless 9 = .ok (.getfield 47, 3) := by decide +kernel
theorem dX4_trackless_12 : decode cX4_trackless 12 = .ok (.if_icmp .ge 23, 3) := by decide +kernel
theorem dX4_trackless_15 : decode cX4_trackless 15 = .ok (.aload_n 0, 1) := by decide +kernel
theorem dX4_trackless_16 : decode cX4_trackless 16 = .ok (.getfield 21, 3) := by decide +kernel
theorem dX4_trackless_19 : decode cX4_trackless 19 = .ok (.iload_n 2, 1) := by decide +kernel
theorem dX4_trackless_20 : decode cX4_trackless 20 = .ok (.iaload, 1) := by decide +kernel
theorem dX4_trackless_21 : decode cX4_trackless 21 = .ok (.bipush (-4), 2) := by decide +kernel
theorem dX4_trackless_23 : decode cX4_trackless 23 = .ok (.if_icmp .ne 6, 3) := by decide +kernel
theorem dX4_trackless_26 : decode cX4_trackless 26 = .ok (.iinc 1 1, 3) := by decide +kernel
theorem dX4_trackless_29 : decode cX4_trackless 29 = .ok (.iinc 2 1, 3) := by decide +kernel
theorem dX4_trackless_32 : decode cX4_trackless 32 = .ok (.goto (-28), 3) := by decide +kernel
theorem dX4_trackless_35 : decode cX4_trackless 35 = .ok (.iload_n 1, 1) := by decide +kernel
theorem dX4_trackless_36 : decode cX4_trackless 36 = .ok (.ireturn, 1) := by decide +kernel
theorem dX4_weigh_0 : decode cX4_weigh 0 = .ok (.iconst 0, 1) := by decide +kernel
theorem dX4_weigh_1 : decode cX4_weigh 1 = .ok (.istore_n 3, 1) := by decide +kernel
theorem dX4_weigh_2 : decode cX4_weigh 2 = .ok (.iload_n 3, 1) := by decide +kernel
theorem dX4_weigh_3 : decode cX4_weigh 3 = .ok (.aload_n 0, 1) := by decide +kernel
theorem dX4_weigh_4 : decode cX4_weigh 4 = .ok (.getfield 28, 3) := by decide +kernel
theorem dX4_weigh_7 : decode cX4_weigh 7 = .ok (.getfield 47, 3) := by decide +kernel
theorem dX4_weigh_10 : decode cX4_weigh 10 = .ok (.if_icmp .ge 152, 3) := by decide +kernel
theorem dX4_weigh_13 : decode cX4_weigh 13 = .ok (.iload_n 1, 1) := by decide +kernel
theorem dX4_weigh_14 : decode cX4_weigh 14 = .ok (.ifCond .ne 15, 3) := by decide +kernel
theorem dX4_weigh_17 : decode cX4_weigh 17 = .ok (.aload_n 0, 1) := by decide +kernel
theorem dX4_weigh_18 : decode cX4_weigh 18 = .ok (.getfield 32, 3) := by decide +kernel
theorem dX4_weigh_21 : decode cX4_weigh 21 = .ok (.getfield 52, 3) := by decide +kernel
theorem dX4_weigh_24 : decode cX4_weigh 24 = .ok (.iload_n 3, 1) := by decide +kernel
theorem dX4_weigh_25 : decode cX4_weigh 25 = .ok (.iaload, 1) := by decide +kernel
theorem dX4_weigh_26 : decode cX4_weigh 26 = .ok (.goto 12, 3) := by decide +kernel
theorem dX4_weigh_29 : decode cX4_weigh 29 = .ok (.aload_n 0, 1) := by decide +kernel
theorem dX4_weigh_30 : decode cX4_weigh 30 = .ok (.getfield 32, 3) := by decide +kernel
theorem dX4_weigh_33 : decode cX4_weigh 33 = .ok (.getfield 57, 3) := by decide +kernel
theorem dX4_weigh_36 : decode cX4_weigh 36 = .ok (.iload_n 3, 1) := by decide +kernel
theorem dX4_weigh_37 : decode cX4_weigh 37 = .ok (.iaload, 1) := by decide +kernel
theorem dX4_weigh_38 : decode cX4_weigh 38 = .ok (.istore 4, 2) := by decide +kernel
theorem dX4_weigh_40 : decode cX4_weigh 40 = .ok (.iconst 0, 1) := by decide +kernel
theorem dX4_weigh_41 : decode cX4_weigh 41 = .ok (.istore 5, 2) := by decide +kernel
theorem dX4_weigh_43 : decode cX4_weigh 43 = .ok (.iload 5, 2) := by decide +kernel
theorem dX4_weigh_45 : decode cX4_weigh 45 = .ok (.aload_n 0, 1) := by decide +kernel
theorem dX4_weigh_46 : decode cX4_weigh 46 = .ok (.getfield 28, 3) := by decide +kernel
theorem dX4_weigh_49 : decode cX4_weigh 49 = .ok (.getfield 60, 3) := by decide +kernel
theorem dX4_weigh_52 : decode cX4_weigh 52 = .ok (.if_icmp .ge 84, 3) := by decide +kernel
theorem dX4_weigh_55 : decode cX4_weigh 55 = .ok (.aload_n 0, 1) := by decide +kernel
theorem dX4_weigh_56 : decode cX4_weigh 56 = .ok (.getfield 28, 3) := by decide +kernel
theorem dX4_weigh_59 : decode cX4_weigh 59 = .ok (.iload_n 3, 1) := by decide +kernel
theorem dX4_weigh_60 : decode cX4_weigh 60 = .ok (.iload 5, 2) := by decide +kernel
theorem dX4_weigh_62 : decode cX4_weigh 62 = .ok (.invokevirtual 63, 3) := by decide +kernel
theorem dX4_weigh_65 : decode cX4_weigh 65 = .ok (.ifCond .eq 33, 3) := by decide +kernel
theorem dX4_weigh_68 : decode cX4_weigh 68 = .ok (.aload_n 0, 1) := by decide +kernel
theorem dX4_weigh_69 : decode cX4_weigh 69 = .ok (.getfield 28, 3) := by decide +kernel
theorem dX4_weigh_72 : decode cX4_weigh 72 = .ok (.iload_n 3, 1) := by decide +kernel
theorem dX4_weigh_73 : decode cX4_weigh 73 = .ok (.iload 5, 2) := by decide +kernel
theorem dX4_weigh_75 : decode cX4_weigh 75 = .ok (.invokevirtual 67, 3) := by decide +kernel
theorem dX4_weigh_78 : decode cX4_weigh 78 = .ok (.aload_n 0, 1) := by decide +kernel
theorem dX4_weigh_79 : decode cX4_weigh 79 = .ok (.getfield 28, 3) := by decide +kernel
theorem dX4_weigh_82 : decode cX4_weigh 82 = .ok (.iload_n 3, 1) := by decide +kernel
theorem dX4_weigh_83 : decode cX4_weigh 83 = .ok (.iload 5, 2) := by decide +kernel
theorem dX4_weigh_85 : decode cX4_weigh 85 = .ok (.invokevirtual 71, 3) := by decide +kernel
theorem dX4_weigh_88 : decode cX4_weigh 88 = .ok (.ior, 1) := by decide +kernel
theorem dX4_weigh_89 : decode cX4_weigh 89 = .ok (.iload_n 2, 1) := by decide +kernel
theorem dX4_weigh_90 : decode cX4_weigh 90 = .ok (.iand, 1) := by decide +kernel
theorem dX4_weigh_91 : decode cX4_weigh 91 = .ok (.ifCond .ne 7, 3) := by decide +kernel
theorem dX4_weigh_94 : decode cX4_weigh 94 = .ok (.iconst 1, 1) := by decide +kernel
theorem dX4_weigh_95 : decode cX4_weigh 95 = .ok (.goto 4, 3) := by decide +kernel
theorem dX4_weigh_98 : decode cX4_weigh 98 = .ok (.iconst 0, 1) := by decide +kernel
theorem dX4_weigh_99 : decode cX4_weigh 99 = .ok (.istore 6, 2) := by decide +kernel
theorem dX4_weigh_101 : decode cX4_weigh 101 = .ok (.aload_n 0, 1) := by decide +kernel
theorem dX4_weigh_102 : decode cX4_weigh 102 = .ok (.getfield 11, 3) := by decide +kernel
theorem dX4_weigh_105 : decode cX4_weigh 105 = .ok (.iload_n 3, 1) := by decide +kernel
theorem dX4_weigh_106 : decode cX4_weigh 106 = .ok (.iconst 5, 1) := by decide +kernel
theorem dX4_weigh_107 : decode cX4_weigh 107 = .ok (.imul, 1) := by decide +kernel
theorem dX4_weigh_108 : decode cX4_weigh 108 = .ok (.iload 5, 2) := by decide +kernel
theorem dX4_weigh_110 : decode cX4_weigh 110 = .ok (.iadd, 1) := by decide +kernel
theorem dX4_weigh_111 : decode cX4_weigh 111 = .ok (.iload 6, 2) := by decide +kernel
theorem dX4_weigh_113 : decode cX4_weigh 113 = .ok (.ifCond .eq 13, 3) := by decide +kernel
theorem dX4_weigh_116 : decode cX4_weigh 116 = .ok (.iload 4, 2) := by decide +kernel
theorem dX4_weigh_118 : decode cX4_weigh 118 = .ok (.iload 5, 2) := by decide +kernel
theorem dX4_weigh_120 : decode cX4_weigh 120 = .ok (.invokestatic 74, 3) := by decide +kernel
theorem dX4_weigh_123 : decode cX4_weigh 123 = .ok (.goto 6, 3) := by decide +kernel
theorem dX4_weigh_126 : decode cX4_weigh 126 = .ok (.sipush 1000, 3) := by decide +kernel
theorem dX4_weigh_129 : decode cX4_weigh 129 = .ok (.iastore, 1) := by decide +kernel
theorem dX4_weigh_130 : decode cX4_weigh 130 = .ok (.iinc 5 1, 3) := by decide +kernel
theorem dX4_weigh_133 : decode cX4_weigh 133 = .ok (.goto (-90), 3) := by decide +kernel
theorem dX4_weigh_136 : decode cX4_weigh 136 = .ok (.aload_n 0, 1) := by decide +kernel
theorem dX4_weigh_137 : decode cX4_weigh 137 = .ok (.getfield 11, 3) := by decide +kernel
theorem dX4_weigh_140 : decode cX4_weigh 140 = .ok (.iload_n 3, 1) := by decide +kernel
theorem dX4_weigh_141 : decode cX4_weigh 141 = .ok (.iconst 5, 1) := by decide +kernel
theorem dX4_weigh_142 : decode cX4_weigh 142 = .ok (.imul, 1) := by decide +kernel
theorem dX4_weigh_143 : decode cX4_weigh 143 = .ok (.iconst 4, 1) := by decide +kernel
theorem dX4_weigh_144 : decode cX4_weigh 144 = .ok (.iadd, 1) := by decide +kernel
theorem dX4_weigh_145 : decode cX4_weigh 145 = .ok (.bipush 8, 2) := by decide +kernel
theorem dX4_weigh_147 : decode cX4_weigh 147 = .ok (.iload 4, 2) := by decide +kernel
theorem dX4_weigh_149 : decode cX4_weigh 149 = .ok (.bipush (-4), 2) := by decide +kernel
theorem dX4_weigh_151 : decode cX4_weigh 151 = .ok (.invokestatic 74, 3) := by decide +kernel
theorem dX4_weigh_154 : decode cX4_weigh 154 = .ok (.iadd, 1) := by decide +kernel
theorem dX4_weigh_155 : decode cX4_weigh 155 = .ok (.iastore, 1) := by decide +kernel
theorem dX4_weigh_156 : decode cX4_weigh 156 = .ok (.iinc 3 1, 3) := by decide +kernel
theorem dX4_weigh_159 : decode cX4_weigh 159 = .ok (.goto (-157), 3) := by decide +kernel
theorem dX4_weigh_162 : decode cX4_weigh 162 = .ok (.return_, 1) := by decide +kernel
theorem dX4_costOf_0 : decode cX4_costOf 0 = .ok (.iload_n 0, 1) := by decide +kernel
theorem dX4_costOf_1 : decode cX4_costOf 1 = .ok (.iload_n 1, 1) := by decide +kernel
theorem dX4_costOf_2 : decode cX4_costOf 2 = .ok (.if_icmp .ne 7, 3) := by decide +kernel
theorem dX4_costOf_5 : decode cX4_costOf 5 = .ok (.iconst 0, 1) := by decide +kernel
theorem dX4_costOf_6 : decode cX4_costOf 6 = .ok (.goto 4, 3) := by decide +kernel
theorem dX4_costOf_9 : decode cX4_costOf 9 = .ok (.iconst 1, 1) := by decide +kernel
theorem dX4_costOf_10 : decode cX4_costOf 10 = .ok (.ireturn, 1) := by decide +kernel
theorem dX4_start_0 : decode cX4_start 0 = .ok (.aload_n 0, 1) := by decide +kernel
theorem dX4_start_1 : decode cX4_start 1 = .ok (.getfield 15, 3) := by decide +kernel
theorem dX4_start_4 : decode cX4_start 4 = .ok (.aload_n 0, 1) := by decide +kernel
theorem dX4_start_5 : decode cX4_start 5 = .ok (.getfield 28, 3) := by decide +kernel
theorem dX4_start_8 : decode cX4_start 8 = .ok (.getfield 47, 3) := by decide +kernel
theorem dX4_start_11 : decode cX4_start 11 = .ok (.iconst 0, 1) := by decide +kernel
theorem dX4_start_12 : decode cX4_start 12 = .ok (.iastore, 1) := by decide +kernel
theorem dX4_start_13 : decode cX4_start 13 = .ok (.aload_n 0, 1) := by decide +kernel
theorem dX4_start_14 : decode cX4_start 14 = .ok (.getfield 28, 3) := by decide +kernel
theorem dX4_start_17 : decode cX4_start 17 = .ok (.getfield 47, 3) := by decide +kernel
theorem dX4_start_20 : decode cX4_start 20 = .ok (.iconst 1, 1) := by decide +kernel
theorem dX4_start_21 : decode cX4_start 21 = .ok (.isub, 1) := by decide +kernel
theorem dX4_start_22 : decode cX4_start 22 = .ok (.istore_n 1, 1) := by decide +kernel
theorem dX4_start_23 : decode cX4_start 23 = .ok (.iload_n 1, 1) := by decide +kernel
theorem dX4_start_24 : decode cX4_start 24 = .ok (.ifCond .lt 70, 3) := by decide +kernel
theorem dX4_start_27 : decode cX4_start 27 = .ok (.aload_n 0, 1) := by decide +kernel
theorem dX4_start_28 : decode cX4_start 28 = .ok (.getfield 11, 3) := by decide +kernel
theorem dX4_start_31 : decode cX4_start 31 = .ok (.iload_n 1, 1) := by decide +kernel
theorem dX4_start_32 : decode cX4_start 32 = .ok (.iconst 5, 1) := by decide +kernel
theorem dX4_start_33 : decode cX4_start 33 = .ok (.imul, 1) := by decide +kernel
theorem dX4_start_34 : decode cX4_start 34 = .ok (.iconst 4, 1) := by decide +kernel
theorem dX4_start_35 : decode cX4_start 35 = .ok (.iadd, 1) := by decide +kernel
theorem dX4_start_36 : decode cX4_start 36 = .ok (.iaload, 1) := by decide +kernel
theorem dX4_start_37 : decode cX4_start 37 = .ok (.istore_n 2, 1) := by decide +kernel
theorem dX4_start_38 : decode cX4_start 38 = .ok (.iconst 0, 1) := by decide +kernel
theorem dX4_start_39 : decode cX4_start 39 = .ok (.istore_n 3, 1) := by decide +kernel
theorem dX4_start_40 : decode cX4_start 40 = .ok (.iload_n 3, 1) := by decide +kernel
theorem dX4_start_41 : decode cX4_start 41 = .ok (.aload_n 0, 1) := by decide +kernel
theorem dX4_start_42 : decode cX4_start 42 = .ok (.getfield 28, 3) := by decide +kernel
theorem dX4_start_45 : decode cX4_start 45 = .ok (.getfield 60, 3) := by decide +kernel
theorem dX4_start_48 : decode cX4_start 48 = .ok (.if_icmp .ge 24, 3) := by decide +kernel
theorem dX4_start_51 : decode cX4_start 51 = .ok (.iload_n 2, 1) := by decide +kernel
theorem dX4_start_52 : decode cX4_start 52 = .ok (.aload_n 0, 1) := by decide +kernel
theorem dX4_start_53 : decode cX4_start 53 = .ok (.getfield 11, 3) := by decide +kernel
theorem dX4_start_56 : decode cX4_start 56 = .ok (.iload_n 1, 1) := by decide +kernel
theorem dX4_start_57 : decode cX4_start 57 = .ok (.iconst 5, 1) := by decide +kernel
theorem dX4_start_58 : decode cX4_start 58 = .ok (.imul, 1) := by decide +kernel
theorem dX4_start_59 : decode cX4_start 59 = .ok (.iload_n 3, 1) := by decide +kernel
theorem dX4_start_60 : decode cX4_start 60 = .ok (.iadd, 1) := by decide +kernel
theorem dX4_start_61 : decode cX4_start 61 = .ok (.iaload, 1) := by decide +kernel
theorem dX4_start_62 : decode cX4_start 62 = .ok (.invokestatic 77, 3) := by decide +kernel
theorem dX4_start_65 : decode cX4_start 65 = .ok (.istore_n 2, 1) := by decide +kernel
theorem dX4_start_66 : decode cX4_start 66 = .ok (.iinc 3 1, 3) := by decide +kernel
theorem dX4_start_69 : decode cX4_start 69 = .ok (.goto (-29), 3) := by decide +kernel
theorem dX4_start_72 : decode cX4_start 72 = .ok (.aload_n 0, 1) := by decide +kernel
theorem dX4_start_73 : decode cX4_start 73 = .ok (.getfield 15, 3) := by decide +kernel
theorem dX4_start_76 : decode cX4_start 76 = .ok (.iload_n 1, 1) := by decide +kernel
theorem dX4_start_77 : decode cX4_start 77 = .ok (.aload_n 0, 1) := by decide +kernel
theorem dX4_start_78 : decode cX4_start 78 = .ok (.getfield 15, 3) := by decide +kernel
theorem dX4_start_81 : decode cX4_start 81 = .ok (.iload_n 1, 1) := by decide +kernel
theorem dX4_start_82 : decode cX4_start 82 = .ok (.iconst 1, 1) := by decide +kernel
theorem dX4_start_83 : decode cX4_start 83 = .ok (.iadd, 1) := by decide +kernel
theorem dX4_start_84 : decode cX4_start 84 = .ok (.iaload, 1) := by decide +kernel
theorem dX4_start_85 : decode cX4_start 85 = .ok (.iload_n 2, 1) := by decide +kernel
theorem dX4_start_86 : decode cX4_start 86 = .ok (.iadd, 1) := by decide +kernel
theorem dX4_start_87 : decode cX4_start 87 = .ok (.iastore, 1) := by decide +kernel
theorem dX4_start_88 : decode cX4_start 88 = .ok (.iinc 1 (-1), 3) := by decide +kernel
theorem dX4_start_91 : decode cX4_start 91 = .ok (.goto (-68), 3) := by decide +kernel
theorem dX4_start_94 : decode cX4_start 94 = .ok (.aload_n 0, 1) := by decide +kernel
theorem dX4_start_95 : decode cX4_start 95 = .ok (.sipush 1000, 3) := by decide +kernel
theorem dX4_start_98 : decode cX4_start 98 = .ok (.putfield 24, 3) := by decide +kernel
theorem dX4_start_101 : decode cX4_start 101 = .ok (.aload_n 0, 1) := by decide +kernel
theorem dX4_start_102 : decode cX4_start 102 = .ok (.iconst 0, 1) := by decide +kernel
theorem dX4_start_103 : decode cX4_start 103 = .ok (.iconst 0, 1) := by decide +kernel
theorem dX4_start_104 : decode cX4_start 104 = .ok (.iconst 0, 1) := by decide +kernel
theorem dX4_start_105 : decode cX4_start 105 = .ok (.invokevirtual 82, 3) := by decide +kernel
theorem dX4_start_108 : decode cX4_start 108 = .ok (.return_, 1) := by decide +kernel
theorem dX4_seek_0 : decode cX4_seek 0 = .ok (.iload_n 1, 1) := by decide +kernel
theorem dX4_seek_1 : decode cX4_seek 1 = .ok (.aload_n 0, 1) := by decide +kernel
theorem dX4_seek_2 : decode cX4_seek 2 = .ok (.getfield 28, 3) := by decide +kernel
theorem dX4_seek_5 : decode cX4_seek 5 = .ok (.getfield 47, 3) := by decide +kernel
theorem dX4_seek_8 : decode cX4_seek 8 = .ok (.if_icmp .lt 9, 3) := by decide +kernel
theorem dX4_seek_11 : decode cX4_seek 11 = .ok (.aload_n 0, 1) := by decide +kernel
theorem dX4_seek_12 : decode cX4_seek 12 = .ok (.iload_n 2, 1) := by decide +kernel
theorem dX4_seek_13 : decode cX4_seek 13 = .ok (.invokevirtual 86, 3) := by decide +kernel
theorem dX4_seek_16 : decode cX4_seek 16 = .ok (.return_, 1) := by decide +kernel
theorem dX4_seek_17 : decode cX4_seek 17 = .ok (.iload_n 2, 1) := by decide +kernel
theorem dX4_seek_18 : decode cX4_seek 18 = .ok (.aload_n 0, 1) := by decide +kernel
theorem dX4_seek_19 : decode cX4_seek 19 = .ok (.getfield 15, 3) := by decide +kernel
theorem dX4_seek_22 : decode cX4_seek 22 = .ok (.iload_n 1, 1) := by decide +kernel
theorem dX4_seek_23 : decode cX4_seek 23 = .ok (.iaload, 1) := by decide +kernel
theorem dX4_seek_24 : decode cX4_seek 24 = .ok (.iadd, 1) := by decide +kernel
theorem dX4_seek_25 : decode cX4_seek 25 = .ok (.aload_n 0, 1) := by decide +kernel
theorem dX4_seek_26 : decode cX4_seek 26 = .ok (.getfield 24, 3) := by decide +kernel
theorem dX4_seek_29 : decode cX4_seek 29 = .ok (.if_icmp .lt 4, 3) := by decide +kernel
theorem dX4_seek_32 : decode cX4_seek 32 = .ok (.return_, 1) := by decide +kernel
theorem dX4_seek_33 : decode cX4_seek 33 = .ok (.iconst 0, 1) := by decide +kernel
theorem dX4_seek_34 : decode cX4_seek 34 = .ok (.istore 4, 2) := by decide +kernel
theorem dX4_seek_36 : decode cX4_seek 36 = .ok (.iload 4, 2) := by decide +kernel
theorem dX4_seek_38 : decode cX4_seek 38 = .ok (.aload_n 0, 1) := by decide +kernel
theorem dX4_seek_39 : decode cX4_seek 39 = .ok (.getfield 28, 3) := by decide +kernel
theorem dX4_seek_42 : decode cX4_seek 42 = .ok (.getfield 60, 3) := by decide +kernel
theorem dX4_seek_45 : decode cX4_seek 45 = .ok (.if_icmp .ge 78, 3) := by decide +kernel
theorem dX4_seek_48 : decode cX4_seek 48 = .ok (.aload_n 0, 1) := by decide +kernel
theorem dX4_seek_49 : decode cX4_seek 49 = .ok (.getfield 11, 3) := by decide +kernel
theorem dX4_seek_52 : decode cX4_seek 52 = .ok (.iload_n 1, 1) := by decide +kernel
theorem dX4_seek_53 : decode cX4_seek 53 = .ok (.iconst 5, 1) := by decide +kernel
theorem dX4_seek_54 : decode cX4_seek 54 = .ok (.imul, 1) := by decide +kernel
theorem dX4_seek_55 : decode cX4_seek 55 = .ok (.iload 4, 2) := by decide +kernel
theorem dX4_seek_57 : decode cX4_seek 57 = .ok (.iadd, 1) := by decide +kernel
theorem dX4_seek_58 : decode cX4_seek 58 = .ok (.iaload, 1) := by decide +kernel
theorem dX4_seek_59 : decode cX4_seek 59 = .ok (.istore 5, 2) := by decide +kernel
theorem dX4_seek_61 : decode cX4_seek 61 = .ok (.iload_n 1, 1) := by decide +kernel
theorem dX4_seek_62 : decode cX4_seek 62 = .ok (.iload 4, 2) := by decide +kernel
theorem dX4_seek_64 : decode cX4_seek 64 = .ok (.invokestatic 90, 3) := by decide +kernel
theorem dX4_seek_67 : decode cX4_seek 67 = .ok (.istore 6, 2) := by decide +kernel
theorem dX4_seek_69 : decode cX4_seek 69 = .ok (.iload 5, 2) := by decide +kernel
theorem dX4_seek_71 : decode cX4_seek 71 = .ok (.sipush 1000, 3) := by decide +kernel
theorem dX4_seek_74 : decode cX4_seek 74 = .ok (.if_icmp .eq 43, 3) := by decide +kernel
theorem dX4_seek_77 : decode cX4_seek 77 = .ok (.aload_n 0, 1) := by decide +kernel
theorem dX4_seek_78 : decode cX4_seek 78 = .ok (.getfield 36, 3) := by decide +kernel
theorem dX4_seek_81 : decode cX4_seek 81 = .ok (.getfield 95, 3) := by decide +kernel
theorem dX4_seek_84 : decode cX4_seek 84 = .ok (.iload 6, 2) := by decide +kernel
theorem dX4_seek_86 : decode cX4_seek 86 = .ok (.iaload, 1) := by decide +kernel
theorem dX4_seek_87 : decode cX4_seek 87 = .ok (.iload_n 3, 1) := by decide +kernel
theorem dX4_seek_88 : decode cX4_seek 88 = .ok (.iand, 1) := by decide +kernel
theorem dX4_seek_89 : decode cX4_seek 89 = .ok (.ifCond .ne 28, 3) := by decide +kernel
theorem dX4_seek_92 : decode cX4_seek 92 = .ok (.aload_n 0, 1) := by decide +kernel
theorem dX4_seek_93 : decode cX4_seek 93 = .ok (.getfield 18, 3) := by decide +kernel
theorem dX4_seek_96 : decode cX4_seek 96 = .ok (.iload_n 1, 1) := by decide +kernel
theorem dX4_seek_97 : decode cX4_seek 97 = .ok (.iload 4, 2) := by decide +kernel
theorem dX4_seek_99 : decode cX4_seek 99 = .ok (.iastore, 1) := by decide +kernel
theorem dX4_seek_100 : decode cX4_seek 100 = .ok (.aload_n 0, 1) := by decide +kernel
theorem dX4_seek_101 : decode cX4_seek 101 = .ok (.iload_n 1, 1) := by decide +kernel
theorem dX4_seek_102 : decode cX4_seek 102 = .ok (.iconst 1, 1) := by decide +kernel
theorem dX4_seek_103 : decode cX4_seek 103 = .ok (.iadd, 1) := by decide +kernel
theorem dX4_seek_104 : decode cX4_seek 104 = .ok (.iload_n 2, 1) := by decide +kernel
theorem dX4_seek_105 : decode cX4_seek 105 = .ok (.iload 5, 2) := by decide +kernel
theorem dX4_seek_107 : decode cX4_seek 107 = .ok (.iadd, 1) := by decide +kernel
theorem dX4_seek_108 : decode cX4_seek 108 = .ok (.iload_n 3, 1) := by decide +kernel
theorem dX4_seek_109 : decode cX4_seek 109 = .ok (.iconst 1, 1) := by decide +kernel
theorem dX4_seek_110 : decode cX4_seek 110 = .ok (.iload 6, 2) := by decide +kernel
theorem dX4_seek_112 : decode cX4_seek 112 = .ok (.ishl, 1) := by decide +kernel
theorem dX4_seek_113 : decode cX4_seek 113 = .ok (.ior, 1) := by decide +kernel
theorem dX4_seek_114 : decode cX4_seek 114 = .ok (.invokevirtual 82, 3) := by decide +kernel
theorem dX4_seek_117 : decode cX4_seek 117 = .ok (.iinc 4 1, 3) := by decide +kernel
theorem dX4_seek_120 : decode cX4_seek 120 = .ok (.goto (-84), 3) := by decide +kernel
theorem dX4_seek_123 : decode cX4_seek 123 = .ok (.aload_n 0, 1) := by decide +kernel
theorem dX4_seek_124 : decode cX4_seek 124 = .ok (.getfield 18, 3) := by decide +kernel
theorem dX4_seek_127 : decode cX4_seek 127 = .ok (.iload_n 1, 1) := by decide +kernel
theorem dX4_seek_128 : decode cX4_seek 128 = .ok (.bipush (-4), 2) := by decide +kernel
theorem dX4_seek_130 : decode cX4_seek 130 = .ok (.iastore, 1) := by decide +kernel
theorem dX4_seek_131 : decode cX4_seek 131 = .ok (.aload_n 0, 1) := by decide +kernel
theorem dX4_seek_132 : decode cX4_seek 132 = .ok (.iload_n 1, 1) := by decide +kernel
theorem dX4_seek_133 : decode cX4_seek 133 = .ok (.iconst 1, 1) := by decide +kernel
theorem dX4_seek_134 : decode cX4_seek 134 = .ok (.iadd, 1) := by decide +kernel
theorem dX4_seek_135 : decode cX4_seek 135 = .ok (.iload_n 2, 1) := by decide +kernel
theorem dX4_seek_136 : decode cX4_seek 136 = .ok (.aload_n 0, 1) := by decide +kernel
theorem dX4_seek_137 : decode cX4_seek 137 = .ok (.getfield 11, 3) := by decide +kernel
theorem dX4_seek_140 : decode cX4_seek 140 = .ok (.iload_n 1, 1) := by decide +kernel
theorem dX4_seek_141 : decode cX4_seek 141 = .ok (.iconst 5, 1) := by decide +kernel
theorem dX4_seek_142 : decode cX4_seek 142 = .ok (.imul, 1) := by decide +kernel
theorem dX4_seek_143 : decode cX4_seek 143 = .ok (.iconst 4, 1) := by decide +kernel
theorem dX4_seek_144 : decode cX4_seek 144 = .ok (.iadd, 1) := by decide +kernel
theorem dX4_seek_145 : decode cX4_seek 145 = .ok (.iaload, 1) := by decide +kernel
theorem dX4_seek_146 : decode cX4_seek 146 = .ok (.iadd, 1) := by decide +kernel
theorem dX4_seek_147 : decode cX4_seek 147 = .ok (.iload_n 3, 1) := by decide +kernel
theorem dX4_seek_148 : decode cX4_seek 148 = .ok (.invokevirtual 82, 3) := by decide +kernel
theorem dX4_seek_151 : decode cX4_seek 151 = .ok (.return_, 1) := by decide +kernel
theorem dX4_keepIfLess_0 : decode cX4_keepIfLess 0 = .ok (.iload_n 1, 1) := by decide +kernel
theorem dX4_keepIfLess_1 : decode cX4_keepIfLess 1 = .ok (.aload_n 0, 1) := by decide +kernel
theorem dX4_keepIfLess_2 : decode cX4_keepIfLess 2 = .ok (.getfield 24, 3) := by decide +kernel
theorem dX4_keepIfLess_5 : decode cX4_keepIfLess 5 = .ok (.if_icmp .ge 23, 3) := by decide +kernel
theorem dX4_keepIfLess_8 : decode cX4_keepIfLess 8 = .ok (.aload_n 0, 1) := by decide +kernel
theorem dX4_keepIfLess_9 : decode cX4_keepIfLess 9 = .ok (.iload_n 1, 1) := by decide +kernel
theorem dX4_keepIfLess_10 : decode cX4_keepIfLess 10 = .ok (.putfield 24, 3) := by decide +kernel
theorem dX4_keepIfLess_13 : decode cX4_keepIfLess 13 = .ok (.aload_n 0, 1) := by decide +kernel
theorem dX4_keepIfLess_14 : decode cX4_keepIfLess 14 = .ok (.getfield 18, 3) := by decide +kernel
theorem dX4_keepIfLess_17 : decode cX4_keepIfLess 17 = .ok (.iconst 0, 1) := by decide +kernel
theorem dX4_keepIfLess_18 : decode cX4_keepIfLess 18 = .ok (.aload_n 0, 1) := by decide +kernel
theorem dX4_keepIfLess_19 : decode cX4_keepIfLess 19 = .ok (.getfield 21, 3) := by decide +kernel
theorem dX4_keepIfLess_22 : decode cX4_keepIfLess 22 = .ok (.iconst 0, 1) := by decide +kernel
theorem dX4_keepIfLess_23 : decode cX4_keepIfLess 23 = .ok (.bipush 7, 2) := by decide +kernel
theorem dX4_keepIfLess_25 : decode cX4_keepIfLess 25 = .ok (.invokestatic 98, 3) := by decide +kernel
theorem dX4_keepIfLess_28 : decode cX4_keepIfLess 28 = .ok (.return_, 1) := by decide +kernel
theorem dX5_init_0 : decode cX5_init 0 = .ok (.aload_n 0, 1) := by decide +kernel
theorem dX5_init_1 : decode cX5_init 1 = .ok (.invokespecial 3, 3) := by decide +kernel
theorem dX5_init_4 : decode cX5_init 4 = .ok (.aload_n 0, 1) := by decide +kernel
theorem dX5_init_5 : decode cX5_init 5 = .ok (.sipush 200, 3) := by decide +kernel
theorem dX5_init_8 : decode cX5_init 8 = .ok (.newarray .char, 2) := by decide +kernel
theorem dX5_init_10 : decode cX5_init 10 = .ok (.putfield 9, 3) := by decide +kernel
theorem dX5_init_13 : decode cX5_init 13 = .ok (.aload_n 0, 1) := by decide +kernel
theorem dX5_init_14 : decode cX5_init 14 = .ok (.iconst 0, 1) := by decide +kernel
theorem dX5_init_15 : decode cX5_init 15 = .ok (.putfield 15, 3) := by decide +kernel
theorem dX5_init_18 : decode cX5_init 18 = .ok (.return_, 1) := by decide +kernel
theorem dX5_append_0 : decode cX5_append 0 = .ok (.aload_n 0, 1) := by decide +kernel
theorem dX5_append_1 : decode cX5_append 1 = .ok (.getfield 15, 3) := by decide +kernel
theorem dX5_append_4 : decode cX5_append 4 = .ok (.sipush 200, 3) := by decide +kernel
theorem dX5_append_7 : decode cX5_append 7 = .ok (.if_icmp .lt 5, 3) := by decide +kernel
theorem dX5_append_10 : decode cX5_append 10 = .ok (.iconst 0, 1) := by decide +kernel
theorem dX5_append_11 : decode cX5_append 11 = .ok (.ireturn, 1) := by decide +kernel
theorem dX5_append_12 : decode cX5_append 12 = .ok (.aload_n 0, 1) := by decide +kernel
theorem dX5_append_13 : decode cX5_append 13 = .ok (.getfield 9, 3) := by decide +kernel
theorem dX5_append_16 : decode cX5_append 16 = .ok (.aload_n 0, 1) := by decide +kernel
theorem dX5_append_17 : decode cX5_append 17 = .ok (.getfield 15, 3) := by decide +kernel
theorem dX5_append_20 : decode cX5_append 20 = .ok (.iload_n 1, 1) := by decide +kernel
theorem dX5_append_21 : decode cX5_append 21 = .ok (.i2c, 1) := by decide +kernel
theorem dX5_append_22 : decode cX5_append 22 = .ok (.castore, 1) := by decide +kernel
theorem dX5_append_23 : decode cX5_append 23 = .ok (.aload_n 0, 1) := by decide +kernel
theorem dX5_append_24 : decode cX5_append 24 = .ok (.dup, 1) := by decide +kernel
theorem dX5_append_25 : decode cX5_append 25 = .ok (.getfield 15, 3) := by decide +kernel
theorem dX5_append_28 : decode cX5_append 28 = .ok (.iconst 1, 1) := by decide +kernel
theorem dX5_append_29 : decode cX5_append 29 = .ok (.iadd, 1) := by decide +kernel
theorem dX5_append_30 : decode cX5_append 30 = .ok (.putfield 15, 3) := by decide +kernel
theorem dX5_append_33 : decode cX5_append 33 = .ok (.iconst 1, 1) := by decide +kernel
theorem dX5_append_34 : decode cX5_append 34 = .ok (.ireturn, 1) := by decide +kernel
theorem dX5_letterAt_0 : decode cX5_letterAt 0 = .ok (.iload_n 1, 1) := by decide +kernel
theorem dX5_letterAt_1 : decode cX5_letterAt 1 = .ok (.ifCond .lt 20, 3) := by decide +kernel
theorem dX5_letterAt_4 : decode cX5_letterAt 4 = .ok (.iload_n 1, 1) := by decide +kernel
theorem dX5_letterAt_5 : decode cX5_letterAt 5 = .ok (.aload_n 0, 1) := by decide +kernel
theorem dX5_letterAt_6 : decode cX5_letterAt 6 = .ok (.getfield 15, 3) := by decide +kernel
theorem dX5_letterAt_9 : decode cX5_letterAt 9 = .ok (.if_icmp .ge 12, 3) := by decide +kernel
theorem dX5_letterAt_12 : decode cX5_letterAt 12 = .ok (.aload_n 0, 1) := by decide +kernel
theorem dX5_letterAt_13 : decode cX5_letterAt 13 = .ok (.getfield 9, 3) := by decide +kernel
theorem dX5_letterAt_16 : decode cX5_letterAt 16 = .ok (.iload_n 1, 1) := by decide +kernel
theorem dX5_letterAt_17 : decode cX5_letterAt 17 = .ok (.caload, 1) := by decide +kernel
theorem dX5_letterAt_18 : decode cX5_letterAt 18 = .ok (.goto 4, 3) := by decide +kernel
theorem dX5_letterAt_21 : decode cX5_letterAt 21 = .ok (.iconst 0, 1) := by decide +kernel
theorem dX5_letterAt_22 : decode cX5_letterAt 22 = .ok (.ireturn, 1) := by decide +kernel
theorem dX6_init_0 : decode cX6_init 0 = .ok (.aload_n 0, 1) := by decide +kernel
theorem dX6_init_1 : decode cX6_init 1 = .ok (.invokespecial 3, 3) := by decide +kernel
theorem dX6_init_4 : decode cX6_init 4 = .ok (.aload_n 0, 1) := by decide +kernel
theorem dX6_init_5 : decode cX6_init 5 = .ok (.iconst 0, 1) := by decide +kernel
theorem dX6_init_6 : decode cX6_init 6 = .ok (.putfield 9, 3) := by decide +kernel
theorem dX6_init_9 : decode cX6_init 9 = .ok (.aload_n 0, 1) := by decide +kernel
theorem dX6_init_10 : decode cX6_init 10 = .ok (.iconst 0, 1) := by decide +kernel
theorem dX6_init_11 : decode cX6_init 11 = .ok (.putfield 15, 3) := by decide +kernel
theorem dX6_init_14 : decode cX6_init 14 = .ok (.aload_n 0, 1) := by decide +kernel
theorem dX6_init_15 : decode cX6_init 15 = .ok (.iconst 0, 1) := by decide +kernel
theorem dX6_init_16 : decode cX6_init 16 = .ok (.putfield 18, 3) := by decide +kernel
theorem dX6_init_19 : decode cX6_init 19 = .ok (.aload_n 0, 1) := by decide +kernel
theorem dX6_init_20 : decode cX6_init 20 = .ok (.iconst 1, 1) := by decide +kernel
theorem dX6_init_21 : decode cX6_init 21 = .ok (.putfield 21, 3) := by decide +kernel
theorem dX6_init_24 : decode cX6_init 24 = .ok (.aload_n 0, 1) := by decide +kernel
theorem dX6_init_25 : decode cX6_init 25 = .ok (.bipush 12, 2) := by decide +kernel
theorem dX6_init_27 : decode cX6_init 27 = .ok (.newarray .int, 2) := by decide +kernel
theorem dX6_init_29 : decode cX6_init 29 = .ok (.putfield 24, 3) := by decide +kernel
theorem dX6_init_32 : decode cX6_init 32 = .ok (.aload_n 0, 1) := by decide +kernel
theorem dX6_init_33 : decode cX6_init 33 = .ok (.bipush 7, 2) := by decide +kernel
theorem dX6_init_35 : decode cX6_init 35 = .ok (.newarray .int, 2) := by decide +kernel
theorem dX6_init_37 : decode cX6_init 37 = .ok (.putfield 28, 3) := by decide +kernel
theorem dX6_init_40 : decode cX6_init 40 = .ok (.aload_n 0, 1) := by decide +kernel
theorem dX6_init_41 : decode cX6_init 41 = .ok (.bipush 7, 2) := by decide +kernel
theorem dX6_init_43 : decode cX6_init 43 = .ok (.newarray .int, 2) := by decide +kernel
theorem dX6_init_45 : decode cX6_init 45 = .ok (.putfield 31, 3) := by decide +kernel
theorem dX6_init_48 : decode cX6_init 48 = .ok (.aload_n 0, 1) := by decide +kernel
theorem dX6_init_49 : decode cX6_init 49 = .ok (.bipush 7, 2) := by decide +kernel
theorem dX6_init_51 : decode cX6_init 51 = .ok (.newarray .int, 2) := by decide +kernel
theorem dX6_init_53 : decode cX6_init 53 = .ok (.putfield 34, 3) := by decide +kernel
theorem dX6_init_56 : decode cX6_init 56 = .ok (.return_, 1) := by decide +kernel
theorem dX6_clear_0 : decode cX6_clear 0 = .ok (.aload_n 0, 1) := by decide +kernel
theorem dX6_clear_1 : decode cX6_clear 1 = .ok (.iconst 0, 1) := by decide +kernel
theorem dX6_clear_2 : decode cX6_clear 2 = .ok (.putfield 9, 3) := by decide +kernel
theorem dX6_clear_5 : decode cX6_clear 5 = .ok (.aload_n 0, 1) := by decide +kernel
theorem dX6_clear_6 : decode cX6_clear 6 = .ok (.iconst 0, 1) := by decide +kernel
theorem dX6_clear_7 : decode cX6_clear 7 = .ok (.putfield 15, 3) := by decide +kernel
theorem dX6_clear_10 : decode cX6_clear 10 = .ok (.aload_n 0, 1) := by decide +kernel
theorem dX6_clear_11 : decode cX6_clear 11 = .ok (.iconst 0, 1) := by decide +kernel
theorem dX6_clear_12 : decode cX6_clear 12 = .ok (.putfield 18, 3) := by decide +kernel
theorem dX6_clear_15 : decode cX6_clear 15 = .ok (.aload_n 0, 1) := by decide +kernel
theorem dX6_clear_16 : decode cX6_clear 16 = .ok (.iconst 1, 1) := by decide +kernel
theorem dX6_clear_17 : decode cX6_clear 17 = .ok (.putfield 21, 3) := by decide +kernel
theorem dX6_clear_20 : decode cX6_clear 20 = .ok (.iconst 0, 1) := by decide +kernel
theorem dX6_clear_21 : decode cX6_clear 21 = .ok (.istore_n 1, 1) := by decide +kernel
theorem dX6_clear_22 : decode cX6_clear 22 = .ok (.iload_n 1, 1) := by decide +kernel
theorem dX6_clear_23 : decode cX6_clear 23 = .ok (.aload_n 0, 1) := by decide +kernel
theorem dX6_clear_24 : decode cX6_clear 24 = .ok (.getfield 24, 3) := by decide +kernel
theorem dX6_clear_27 : decode cX6_clear 27 = .ok (.arraylength, 1) := by decide +kernel
theorem dX6_clear_28 : decode cX6_clear 28 = .ok (.if_icmp .ge 17, 3) := by decide +kernel
theorem dX6_clear_31 : decode cX6_clear 31 = .ok (.aload_n 0, 1) := by decide +kernel
theorem dX6_clear_32 : decode cX6_clear 32 = .ok (.getfield 24, 3) := by decide +kernel
theorem dX6_clear_35 : decode cX6_clear 35 = .ok (.iload_n 1, 1) := by decide +kernel
theorem dX6_clear_36 : decode cX6_clear 36 = .ok (.bipush (-4), 2) := by decide +kernel
theorem dX6_clear_38 : decode cX6_clear 38 = .ok (.iastore, 1) := by decide +kernel
theorem dX6_clear_39 : decode cX6_clear 39 = .ok (.iinc 1 1, 3) := by decide +kernel
theorem dX6_clear_42 : decode cX6_clear 42 = .ok (.goto (-20), 3) := by decide +kernel
theorem dX6_clear_45 : decode cX6_clear 45 = .ok (.return_, 1) := by decide +kernel
theorem dX6_hasLine_0 : decode cX6_hasLine 0 = .ok (.iload_n 1, 1) := by decide +kernel
theorem dX6_hasLine_1 : decode cX6_hasLine 1 = .ok (.ifCond .lt 15, 3) := by decide +kernel
theorem dX6_hasLine_4 : decode cX6_hasLine 4 = .ok (.iload_n 1, 1) := by decide +kernel
theorem dX6_hasLine_5 : decode cX6_hasLine 5 = .ok (.aload_n 0, 1) := by decide +kernel
theorem dX6_hasLine_6 : decode cX6_hasLine 6 = .ok (.getfield 9, 3) := by decide +kernel
theorem dX6_hasLine_9 : decode cX6_hasLine 9 = .ok (.if_icmp .ge 7, 3) := by decide +kernel
theorem dX6_hasLine_12 : decode cX6_hasLine 12 = .ok (.iconst 1, 1) := by decide +kernel
theorem dX6_hasLine_13 : decode cX6_hasLine 13 = .ok (.goto 4, 3) := by decide +kernel
theorem dX6_hasLine_16 : decode cX6_hasLine 16 = .ok (.iconst 0, 1) := by decide +kernel
theorem dX6_hasLine_17 : decode cX6_hasLine 17 = .ok (.ireturn, 1) := by decide +kernel
theorem dX6_hasTrack_0 : decode cX6_hasTrack 0 = .ok (.iload_n 1, 1) := by decide +kernel
theorem dX6_hasTrack_1 : decode cX6_hasTrack 1 = .ok (.ifCond .lt 15, 3) := by decide +kernel
theorem dX6_hasTrack_4 : decode cX6_hasTrack 4 = .ok (.iload_n 1, 1) := by decide +kernel
theorem dX6_hasTrack_5 : decode cX6_hasTrack 5 = .ok (.aload_n 0, 1) := by decide +kernel
theorem dX6_hasTrack_6 : decode cX6_hasTrack 6 = .ok (.getfield 15, 3) := by decide +kernel
theorem dX6_hasTrack_9 : decode cX6_hasTrack 9 = .ok (.if_icmp .ge 7, 3) := by decide +kernel
theorem dX6_hasTrack_12 : decode cX6_hasTrack 12 = .ok (.iconst 1, 1) := by decide +kernel
theorem dX6_hasTrack_13 : decode cX6_hasTrack 13 = .ok (.goto 4, 3) := by decide +kernel
theorem dX6_hasTrack_16 : decode cX6_hasTrack 16 = .ok (.iconst 0, 1) := by decide +kernel
theorem dX6_hasTrack_17 : decode cX6_hasTrack 17 = .ok (.ireturn, 1) := by decide +kernel
theorem dX6_hasTrain_0 : decode cX6_hasTrain 0 = .ok (.iload_n 1, 1) := by decide +kernel
theorem dX6_hasTrain_1 : decode cX6_hasTrain 1 = .ok (.ifCond .lt 15, 3) := by decide +kernel
theorem dX6_hasTrain_4 : decode cX6_hasTrain 4 = .ok (.iload_n 1, 1) := by decide +kernel
theorem dX6_hasTrain_5 : decode cX6_hasTrain 5 = .ok (.aload_n 0, 1) := by decide +kernel
theorem dX6_hasTrain_6 : decode cX6_hasTrain 6 = .ok (.getfield 18, 3) := by decide +kernel
theorem dX6_hasTrain_9 : decode cX6_hasTrain 9 = .ok (.if_icmp .ge 7, 3) := by decide +kernel
theorem dX6_hasTrain_12 : decode cX6_hasTrain 12 = .ok (.iconst 1, 1) := by decide +kernel
theorem dX6_hasTrain_13 : decode cX6_hasTrain 13 = .ok (.goto 4, 3) := by decide +kernel
theorem dX6_hasTrain_16 : decode cX6_hasTrain 16 = .ok (.iconst 0, 1) := by decide +kernel
theorem dX6_hasTrain_17 : decode cX6_hasTrain 17 = .ok (.ireturn, 1) := by decide +kernel
theorem dX6_switchesOf_0 : decode cX6_switchesOf 0 = .ok (.aload_n 0, 1) := by decide +kernel
theorem dX6_switchesOf_1 : decode cX6_switchesOf 1 = .ok (.getfield 24, 3) := by decide +kernel
theorem dX6_switchesOf_4 : decode cX6_switchesOf 4 = .ok (.iload_n 1, 1) := by decide +kernel
theorem dX6_switchesOf_5 : decode cX6_switchesOf 5 = .ok (.iconst 4, 1) := by decide +kernel
theorem dX6_switchesOf_6 : decode cX6_switchesOf 6 = .ok (.imul, 1) := by decide +kernel
theorem dX6_switchesOf_7 : decode cX6_switchesOf 7 = .ok (.iload_n 2, 1) := by decide +kernel
theorem dX6_switchesOf_8 : decode cX6_switchesOf 8 = .ok (.iadd, 1) := by decide +kernel
theorem dX6_switchesOf_9 : decode cX6_switchesOf 9 = .ok (.iaload, 1) := by decide +kernel
theorem dX6_switchesOf_10 : decode cX6_switchesOf 10 = .ok (.ireturn, 1) := by decide +kernel
theorem dX6_routeIn_0 : decode cX6_routeIn 0 = .ok (.aload_n 0, 1) := by decide +kernel
theorem dX6_routeIn_1 : decode cX6_routeIn 1 = .ok (.getfield 24, 3) := by decide +kernel
theorem dX6_routeIn_4 : decode cX6_routeIn 4 = .ok (.aload_n 0, 1) := by decide +kernel
theorem dX6_routeIn_5 : decode cX6_routeIn 5 = .ok (.getfield 28, 3) := by decide +kernel
theorem dX6_routeIn_8 : decode cX6_routeIn 8 = .ok (.iload_n 1, 1) := by decide +kernel
theorem dX6_routeIn_9 : decode cX6_routeIn 9 = .ok (.iaload, 1) := by decide +kernel
theorem dX6_routeIn_10 : decode cX6_routeIn 10 = .ok (.iconst 4, 1) := by decide +kernel
theorem dX6_routeIn_11 : decode cX6_routeIn 11 = .ok (.imul, 1) := by decide +kernel
theorem dX6_routeIn_12 : decode cX6_routeIn 12 = .ok (.iload_n 2, 1) := by decide +kernel
theorem dX6_routeIn_13 : decode cX6_routeIn 13 = .ok (.iadd, 1) := by decide +kernel
theorem dX6_routeIn_14 : decode cX6_routeIn 14 = .ok (.iaload, 1) := by decide +kernel
theorem dX6_routeIn_15 : decode cX6_routeIn 15 = .ok (.ireturn, 1) := by decide +kernel
theorem dX6_routeOut_0 : decode cX6_routeOut 0 = .ok (.aload_n 0, 1) := by decide +kernel
theorem dX6_routeOut_1 : decode cX6_routeOut 1 = .ok (.getfield 24, 3) := by decide +kernel
theorem dX6_routeOut_4 : decode cX6_routeOut 4 = .ok (.aload_n 0, 1) := by decide +kernel
theorem dX6_routeOut_5 : decode cX6_routeOut 5 = .ok (.getfield 31, 3) := by decide +kernel
theorem dX6_routeOut_8 : decode cX6_routeOut 8 = .ok (.iload_n 1, 1) := by decide +kernel
theorem dX6_routeOut_9 : decode cX6_routeOut 9 = .ok (.iaload, 1) := by decide +kernel
theorem dX6_routeOut_10 : decode cX6_routeOut 10 = .ok (.iconst 4, 1) := by decide +kernel
theorem dX6_routeOut_11 : decode cX6_routeOut 11 = .ok (.imul, 1) := by decide +kernel
theorem dX6_routeOut_12 : decode cX6_routeOut 12 = .ok (.iload_n 2, 1) := by decide +kernel
theorem dX6_routeOut_13 : decode cX6_routeOut 13 = .ok (.iadd, 1) := by decide +kernel
theorem dX6_routeOut_14 : decode cX6_routeOut 14 = .ok (.iaload, 1) := by decide +kernel
theorem dX6_routeOut_15 : decode cX6_routeOut 15 = .ok (.ireturn, 1) := by decide +kernel
theorem dX6_fits_0 : decode cX6_fits 0 = .ok (.aload_n 0, 1) := by decide +kernel
theorem dX6_fits_1 : decode cX6_fits 1 = .ok (.iload_n 1, 1) := by decide +kernel
theorem dX6_fits_2 : decode cX6_fits 2 = .ok (.iload_n 2, 1) := by decide +kernel
theorem dX6_fits_3 : decode cX6_fits 3 = .ok (.invokevirtual 37, 3) := by decide +kernel
theorem dX6_fits_6 : decode cX6_fits 6 = .ok (.bipush (-4), 2) := by decide +kernel
theorem dX6_fits_8 : decode cX6_fits 8 = .ok (.if_icmp .eq 18, 3) := by decide +kernel
theorem dX6_fits_11 : decode cX6_fits 11 = .ok (.aload_n 0, 1) := by decide +kernel
theorem dX6_fits_12 : decode cX6_fits 12 = .ok (.iload_n 1, 1) := by decide +kernel
theorem dX6_fits_13 : decode cX6_fits 13 = .ok (.iload_n 2, 1) := by decide +kernel
theorem dX6_fits_14 : decode cX6_fits 14 = .ok (.invokevirtual 41, 3) := by decide +kernel
theorem dX6_fits_17 : decode cX6_fits 17 = .ok (.bipush (-4), 2) := by decide +kernel
theorem dX6_fits_19 : decode cX6_fits 19 = .ok (.if_icmp .eq 7, 3) := by decide +kernel
theorem dX6_fits_22 : decode cX6_fits 22 = .ok (.iconst 1, 1) := by decide +kernel
theorem dX6_fits_23 : decode cX6_fits 23 = .ok (.goto 4, 3) := by decide +kernel
theorem dX6_fits_26 : decode cX6_fits 26 = .ok (.iconst 0, 1) := by decide +kernel
theorem dX6_fits_27 : decode cX6_fits 27 = .ok (.ireturn, 1) := by decide +kernel
theorem dX6_areCoupled_0 : decode cX6_areCoupled 0 = .ok (.aload_n 0, 1) := by decide +kernel
theorem dX6_areCoupled_1 : decode cX6_areCoupled 1 = .ok (.getfield 34, 3) := by decide +kernel
theorem dX6_areCoupled_4 : decode cX6_areCoupled 4 = .ok (.iload_n 1, 1) := by decide +kernel
theorem dX6_areCoupled_5 : decode cX6_areCoupled 5 = .ok (.iaload, 1) := by decide +kernel
theorem dX6_areCoupled_6 : decode cX6_areCoupled 6 = .ok (.iload_n 2, 1) := by decide +kernel
theorem dX6_areCoupled_7 : decode cX6_areCoupled 7 = .ok (.if_icmp .ne 7, 3) := by decide +kernel
theorem dX6_areCoupled_10 : decode cX6_areCoupled 10 = .ok (.iconst 1, 1) := by decide +kernel
theorem dX6_areCoupled_11 : decode cX6_areCoupled 11 = .ok (.goto 4, 3) := by decide +kernel
theorem dX6_areCoupled_14 : decode cX6_areCoupled 14 = .ok (.iconst 0, 1) := by decide +kernel
theorem dX6_areCoupled_15 : decode cX6_areCoupled 15 = .ok (.ireturn, 1) := by decide +kernel
theorem dX7_init_0 : decode cX7_init 0 = .ok (.aload_n 0, 1) := by decide +kernel
theorem dX7_init_1 : decode cX7_init 1 = .ok (.invokespecial 1, 3) := by decide +kernel
theorem dX7_init_4 : decode cX7_init 4 = .ok (.aload_n 0, 1) := by decide +kernel
theorem dX7_init_5 : decode cX7_init 5 = .ok (.new 7, 3) := by decide +kernel
theorem dX7_init_8 : decode cX7_init 8 = .ok (.dup, 1) := by decide +kernel
theorem dX7_init_9 : decode cX7_init 9 = .ok (.invokespecial 9, 3) := by decide +kernel
theorem dX7_init_12 : decode cX7_init 12 = .ok (.putfield 10, 3) := by decide +kernel
theorem dX7_init_15 : decode cX7_init 15 = .ok (.aload_n 0, 1) := by decide +kernel
theorem dX7_init_16 : decode cX7_init 16 = .ok (.new 16, 3) := by decide +kernel
theorem dX7_init_19 : decode cX7_init 19 = .ok (.dup, 1) := by decide +kernel
theorem dX7_init_20 : decode cX7_init 20 = .ok (.invokespecial 18, 3) := by decide +kernel
theorem dX7_init_23 : decode cX7_init 23 = .ok (.putfield 19, 3) := by decide +kernel
theorem dX7_init_26 : decode cX7_init 26 = .ok (.aload_n 0, 1) := by decide +kernel
theorem dX7_init_27 : decode cX7_init 27 = .ok (.new 23, 3) := by decide +kernel
theorem dX7_init_30 : decode cX7_init 30 = .ok (.dup, 1) := by decide +kernel
theorem dX7_init_31 : decode cX7_init 31 = .ok (.invokespecial 25, 3) := by decide +kernel
theorem dX7_init_34 : decode cX7_init 34 = .ok (.putfield 26, 3) := by decide +kernel
theorem dX7_init_37 : decode cX7_init 37 = .ok (.aload_n 0, 1) := by decide +kernel
theorem dX7_init_38 : decode cX7_init 38 = .ok (.new 30, 3) := by decide +kernel
theorem dX7_init_41 : decode cX7_init 41 = .ok (.dup, 1) := by decide +kernel
theorem dX7_init_42 : decode cX7_init 42 = .ok (.aload_n 0, 1) := by decide +kernel
theorem dX7_init_43 : decode cX7_init 43 = .ok (.getfield 10, 3) := by decide +kernel
theorem dX7_init_46 : decode cX7_init 46 = .ok (.aload_n 0, 1) := by decide +kernel
theorem dX7_init_47 : decode cX7_init 47 = .ok (.getfield 19, 3) := by decide +kernel
theorem dX7_init_50 : decode cX7_init 50 = .ok (.aload_n 0, 1) := by decide +kernel
theorem dX7_init_51 : decode cX7_init 51 = .ok (.getfield 26, 3) := by decide +kernel
theorem dX7_init_54 : decode cX7_init 54 = .ok (.invokespecial 32, 3) := by decide +kernel
theorem dX7_init_57 : decode cX7_init 57 = .ok (.putfield 35, 3) := by decide +kernel
theorem dX7_init_60 : decode cX7_init 60 = .ok (.aload_n 0, 1) := by decide +kernel
theorem dX7_init_61 : decode cX7_init 61 = .ok (.new 30, 3) := by decide +kernel
theorem dX7_init_64 : decode cX7_init 64 = .ok (.dup, 1) := by decide +kernel
theorem dX7_init_65 : decode cX7_init 65 = .ok (.aload_n 0, 1) := by decide +kernel
theorem dX7_init_66 : decode cX7_init 66 = .ok (.getfield 10, 3) := by decide +kernel
theorem dX7_init_69 : decode cX7_init 69 = .ok (.new 16, 3) := by decide +kernel
theorem dX7_init_72 : decode cX7_init 72 = .ok (.dup, 1) := by decide +kernel
theorem dX7_init_73 : decode cX7_init 73 = .ok (.invokespecial 18, 3) := by decide +kernel
theorem dX7_init_76 : decode cX7_init 76 = .ok (.new 23, 3) := by decide +kernel
theorem dX7_init_79 : decode cX7_init 79 = .ok (.dup, 1) := by decide +kernel
theorem dX7_init_80 : decode cX7_init 80 = .ok (.invokespecial 25, 3) := by decide +kernel
theorem dX7_init_83 : decode cX7_init 83 = .ok (.invokespecial 32, 3) := by decide +kernel
theorem dX7_init_86 : decode cX7_init 86 = .ok (.putfield 39, 3) := by decide +kernel
theorem dX7_init_89 : decode cX7_init 89 = .ok (.aload_n 0, 1) := by decide +kernel
theorem dX7_init_90 : decode cX7_init 90 = .ok (.new 42, 3) := by decide +kernel
theorem dX7_init_93 : decode cX7_init 93 = .ok (.dup, 1) := by decide +kernel
theorem dX7_init_94 : decode cX7_init 94 = .ok (.aload_n 0, 1) := by decide +kernel
theorem dX7_init_95 : decode cX7_init 95 = .ok (.getfield 19, 3) := by decide +kernel
theorem dX7_init_98 : decode cX7_init 98 = .ok (.aload_n 0, 1) := by decide +kernel
theorem dX7_init_99 : decode cX7_init 99 = .ok (.getfield 26, 3) := by decide +kernel
theorem dX7_init_102 : decode cX7_init 102 = .ok (.invokespecial 44, 3) := by decide +kernel
theorem dX7_init_105 : decode cX7_init 105 = .ok (.putfield 47, 3) := by decide +kernel
theorem dX7_init_108 : decode cX7_init 108 = .ok (.aload_n 0, 1) := by decide +kernel
theorem dX7_init_109 : decode cX7_init 109 = .ok (.new 51, 3) := by decide +kernel
theorem dX7_init_112 : decode cX7_init 112 = .ok (.dup, 1) := by decide +kernel
theorem dX7_init_113 : decode cX7_init 113 = .ok (.aload_n 0, 1) := by decide +kernel
theorem dX7_init_114 : decode cX7_init 114 = .ok (.getfield 19, 3) := by decide +kernel
theorem dX7_init_117 : decode cX7_init 117 = .ok (.aload_n 0, 1) := by decide +kernel
theorem dX7_init_118 : decode cX7_init 118 = .ok (.getfield 26, 3) := by decide +kernel
theorem dX7_init_121 : decode cX7_init 121 = .ok (.aload_n 0, 1) := by decide +kernel
theorem dX7_init_122 : decode cX7_init 122 = .ok (.getfield 47, 3) := by decide +kernel
theorem dX7_init_125 : decode cX7_init 125 = .ok (.invokespecial 53, 3) := by decide +kernel
theorem dX7_init_128 : decode cX7_init 128 = .ok (.putfield 56, 3) := by decide +kernel
theorem dX7_init_131 : decode cX7_init 131 = .ok (.aload_n 0, 1) := by decide +kernel
theorem dX7_init_132 : decode cX7_init 132 = .ok (.new 60, 3) := by decide +kernel
theorem dX7_init_135 : decode cX7_init 135 = .ok (.dup, 1) := by decide +kernel
theorem dX7_init_136 : decode cX7_init 136 = .ok (.invokespecial 62, 3) := by decide +kernel
theorem dX7_init_139 : decode cX7_init 139 = .ok (.putfield 63, 3) := by decide +kernel
theorem dX7_init_142 : decode cX7_init 142 = .ok (.iconst 0, 1) := by decide +kernel
theorem dX7_init_143 : decode cX7_init 143 = .ok (.istore_n 1, 1) := by decide +kernel
theorem dX7_init_144 : decode cX7_init 144 = .ok (.iload_n 1, 1) := by decide +kernel
theorem dX7_init_145 : decode cX7_init 145 = .ok (.ldc 67, 2) := by decide +kernel
theorem dX7_init_147 : decode cX7_init 147 = .ok (.invokevirtual 69, 3) := by decide +kernel
theorem dX7_init_150 : decode cX7_init 150 = .ok (.if_icmp .ge 20, 3) := by decide +kernel
theorem dX7_init_153 : decode cX7_init 153 = .ok (.aload_n 0, 1) := by decide +kernel
theorem dX7_init_154 : decode cX7_init 154 = .ok (.ldc 67, 2) := by decide +kernel
theorem dX7_init_156 : decode cX7_init 156 = .ok (.iload_n 1, 1) := by decide +kernel
theorem dX7_init_157 : decode cX7_init 157 = .ok (.invokevirtual 75, 3) := by decide +kernel
theorem dX7_init_160 : decode cX7_init 160 = .ok (.invokevirtual 79, 3) := by decide +kernel
theorem dX7_init_163 : decode cX7_init 163 = .ok (.pop, 1) := by decide +kernel
theorem dX7_init_164 : decode cX7_init 164 = .ok (.iinc 1 1, 3) := by decide +kernel
theorem dX7_init_167 : decode cX7_init 167 = .ok (.goto (-23), 3) := by decide +kernel
theorem dX7_init_170 : decode cX7_init 170 = .ok (.aload_n 0, 1) := by decide +kernel
theorem dX7_init_171 : decode cX7_init 171 = .ok (.invokevirtual 83, 3) := by decide +kernel
theorem dX7_init_174 : decode cX7_init 174 = .ok (.pop, 1) := by decide +kernel
theorem dX7_init_175 : decode cX7_init 175 = .ok (.aload_n 0, 1) := by decide +kernel
theorem dX7_init_176 : decode cX7_init 176 = .ok (.invokevirtual 86, 3) := by decide +kernel
theorem dX7_init_179 : decode cX7_init 179 = .ok (.pop, 1) := by decide +kernel
theorem dX7_init_180 : decode cX7_init 180 = .ok (.return_, 1) := by decide +kernel
theorem dX7_write_0 : decode cX7_write 0 = .ok (.iload_n 1, 1) := by decide +kernel
theorem dX7_write_1 : decode cX7_write 1 = .ok (.bipush 32, 2) := by decide +kernel
theorem dX7_write_3 : decode cX7_write 3 = .ok (.if_icmp .lt 9, 3) := by decide +kernel
theorem dX7_write_6 : decode cX7_write 6 = .ok (.iload_n 1, 1) := by decide +kernel
theorem dX7_write_7 : decode cX7_write 7 = .ok (.bipush 126, 2) := by decide +kernel
theorem dX7_write_9 : decode cX7_write 9 = .ok (.if_icmp .le 5, 3) := by decide +kernel
theorem dX7_write_12 : decode cX7_write 12 = .ok (.iconst (-1), 1) := by decide +kernel
theorem dX7_write_13 : decode cX7_write 13 = .ok (.ireturn, 1) := by decide +kernel
theorem dX7_write_14 : decode cX7_write 14 = .ok (.aload_n 0, 1) := by decide +kernel
theorem dX7_write_15 : decode cX7_write 15 = .ok (.getfield 10, 3) := by decide +kernel
theorem dX7_write_18 : decode cX7_write 18 = .ok (.iload_n 1, 1) := by decide +kernel
theorem dX7_write_19 : decode cX7_write 19 = .ok (.invokevirtual 89, 3) := by decide +kernel
theorem dX7_write_22 : decode cX7_write 22 = .ok (.ifCond .eq 13, 3) := by decide +kernel
theorem dX7_write_25 : decode cX7_write 25 = .ok (.aload_n 0, 1) := by decide +kernel
theorem dX7_write_26 : decode cX7_write 26 = .ok (.getfield 10, 3) := by decide +kernel
theorem dX7_write_29 : decode cX7_write 29 = .ok (.getfield 93, 3) := by decide +kernel
theorem dX7_write_32 : decode cX7_write 32 = .ok (.goto 5, 3) := by decide +kernel
theorem dX7_write_35 : decode cX7_write 35 = .ok (.bipush (-3), 2) := by decide +kernel
theorem dX7_write_37 : decode cX7_write 37 = .ok (.ireturn, 1) := by decide +kernel
theorem dX7_wipe_0 : decode cX7_wipe 0 = .ok (.aload_n 0, 1) := by decide +kernel
theorem dX7_wipe_1 : decode cX7_wipe 1 = .ok (.getfield 10, 3) := by decide +kernel
theorem dX7_wipe_4 : decode cX7_wipe 4 = .ok (.getfield 93, 3) := by decide +kernel
theorem dX7_wipe_7 : decode cX7_wipe 7 = .ok (.istore_n 1, 1) := by decide +kernel
theorem dX7_wipe_8 : decode cX7_wipe 8 = .ok (.aload_n 0, 1) := by decide +kernel
theorem dX7_wipe_9 : decode cX7_wipe 9 = .ok (.getfield 10, 3) := by decide +kernel
theorem dX7_wipe_12 : decode cX7_wipe 12 = .ok (.iconst 0, 1) := by decide +kernel
theorem dX7_wipe_13 : decode cX7_wipe 13 = .ok (.putfield 93, 3) := by decide +kernel
theorem dX7_wipe_16 : decode cX7_wipe 16 = .ok (.iload_n 1, 1) := by decide +kernel
theorem dX7_wipe_17 : decode cX7_wipe 17 = .ok (.ireturn, 1) := by decide +kernel
theorem dX7_fault_0 : decode cX7_fault 0 = .ok (.aload_n 0, 1) := by decide +kernel
theorem dX7_fault_1 : decode cX7_fault 1 = .ok (.getfield 39, 3) := by decide +kernel
theorem dX7_fault_4 : decode cX7_fault 4 = .ok (.invokevirtual 96, 3) := by decide +kernel
theorem dX7_fault_7 : decode cX7_fault 7 = .ok (.ireturn, 1) := by decide +kernel
theorem dX7_lay_0 : decode cX7_lay 0 = .ok (.aload_n 0, 1) := by decide +kernel
theorem dX7_lay_1 : decode cX7_lay 1 = .ok (.getfield 39, 3) := by decide +kernel
theorem dX7_lay_4 : decode cX7_lay 4 = .ok (.invokevirtual 96, 3) := by decide +kernel
theorem dX7_lay_7 : decode cX7_lay 7 = .ok (.bipush (-4), 2) := by decide +kernel
theorem dX7_lay_9 : decode cX7_lay 9 = .ok (.if_icmp .ne 16, 3) := by decide +kernel
theorem dX7_lay_12 : decode cX7_lay 12 = .ok (.aload_n 0, 1) := by decide +kernel
theorem dX7_lay_13 : decode cX7_lay 13 = .ok (.getfield 39, 3) := by decide +kernel
theorem dX7_lay_16 : decode cX7_lay 16 = .ok (.getfield 99, 3) := by decide +kernel
theorem dX7_lay_19 : decode cX7_lay 19 = .ok (.getfield 100, 3) := by decide +kernel
theorem dX7_lay_22 : decode cX7_lay 22 = .ok (.ifCond .ne 6, 3) := by decide +kernel
theorem dX7_lay_25 : decode cX7_lay 25 = .ok (.bipush (-2), 2) := by decide +kernel
theorem dX7_lay_27 : decode cX7_lay 27 = .ok (.ireturn, 1) := by decide +kernel
theorem dX7_lay_28 : decode cX7_lay 28 = .ok (.aload_n 0, 1) := by decide +kernel
theorem dX7_lay_29 : decode cX7_lay 29 = .ok (.getfield 35, 3) := by decide +kernel
theorem dX7_lay_32 : decode cX7_lay 32 = .ok (.invokevirtual 96, 3) := by decide +kernel
theorem dX7_lay_35 : decode cX7_lay 35 = .ok (.pop, 1) := by decide +kernel
theorem dX7_lay_36 : decode cX7_lay 36 = .ok (.aload_n 0, 1) := by decide +kernel
theorem dX7_lay_37 : decode cX7_lay 37 = .ok (.getfield 47, 3) := by decide +kernel
theorem dX7_lay_40 : decode cX7_lay 40 = .ok (.invokevirtual 103, 3) := by decide +kernel
theorem dX7_lay_43 : decode cX7_lay 43 = .ok (.aload_n 0, 1) := by decide +kernel
theorem dX7_lay_44 : decode cX7_lay 44 = .ok (.getfield 63, 3) := by decide +kernel
theorem dX7_lay_47 : decode cX7_lay 47 = .ok (.iconst 0, 1) := by decide +kernel
theorem dX7_lay_48 : decode cX7_lay 48 = .ok (.putfield 106, 3) := by decide +kernel
theorem dX7_lay_51 : decode cX7_lay 51 = .ok (.aload_n 0, 1) := by decide +kernel
theorem dX7_lay_52 : decode cX7_lay 52 = .ok (.getfield 19, 3) := by decide +kernel
theorem dX7_lay_55 : decode cX7_lay 55 = .ok (.getfield 109, 3) := by decide +kernel
theorem dX7_lay_58 : decode cX7_lay 58 = .ok (.ireturn, 1) := by decide +kernel
theorem dX7_route_0 : decode cX7_route 0 = .ok (.aload_n 0, 1) := by decide +kernel
theorem dX7_route_1 : decode cX7_route 1 = .ok (.getfield 19, 3) := by decide +kernel
theorem dX7_route_4 : decode cX7_route 4 = .ok (.iload_n 1, 1) := by decide +kernel
theorem dX7_route_5 : decode cX7_route 5 = .ok (.invokevirtual 112, 3) := by decide +kernel
theorem dX7_route_8 : decode cX7_route 8 = .ok (.ifCond .eq 14, 3) := by decide +kernel
theorem dX7_route_11 : decode cX7_route 11 = .ok (.aload_n 0, 1) := by decide +kernel
theorem dX7_route_12 : decode cX7_route 12 = .ok (.getfield 19, 3) := by decide +kernel
theorem dX7_route_15 : decode cX7_route 15 = .ok (.iload_n 2, 1) := by decide +kernel
theorem dX7_route_16 : decode cX7_route 16 = .ok (.invokevirtual 115, 3) := by decide +kernel
theorem dX7_route_19 : decode cX7_route 19 = .ok (.ifCond .ne 5, 3) := by decide +kernel
theorem dX7_route_22 : decode cX7_route 22 = .ok (.iconst (-1), 1) := by decide +kernel
theorem dX7_route_23 : decode cX7_route 23 = .ok (.ireturn, 1) := by decide +kernel
theorem dX7_route_24 : decode cX7_route 24 = .ok (.aload_n 0, 1) := by decide +kernel
theorem dX7_route_25 : decode cX7_route 25 = .ok (.getfield 19, 3) := by decide +kernel
theorem dX7_route_28 : decode cX7_route 28 = .ok (.iload_n 1, 1) := by decide +kernel
theorem dX7_route_29 : decode cX7_route 29 = .ok (.iload_n 2, 1) := by decide +kernel
theorem dX7_route_30 : decode cX7_route 30 = .ok (.invokevirtual 118, 3) := by decide +kernel
theorem dX7_route_33 : decode cX7_route 33 = .ok (.ireturn, 1) := by decide +kernel
theorem dX7_train_0 : decode cX7_train 0 = .ok (.aload_n 0, 1) := by decide +kernel
theorem dX7_train_1 : decode cX7_train 1 = .ok (.getfield 19, 3) := by decide +kernel
theorem dX7_train_4 : decode cX7_train 4 = .ok (.iload_n 1, 1) := by decide +kernel
theorem dX7_train_5 : decode cX7_train 5 = .ok (.invokevirtual 122, 3) := by decide +kernel
theorem dX7_train_8 : decode cX7_train 8 = .ok (.ifCond .ne 5, 3) := by decide +kernel
theorem dX7_train_11 : decode cX7_train 11 = .ok (.iconst (-1), 1) := by decide +kernel
theorem dX7_train_12 : decode cX7_train 12 = .ok (.ireturn, 1) := by decide +kernel
theorem dX7_train_13 : decode cX7_train 13 = .ok (.iload_n 2, 1) := by decide +kernel
theorem dX7_train_14 : decode cX7_train 14 = .ok (.tableswitch 154 0 8 #[50, 60, 70, 80, 90, 119, 129, 139, 145], 50) := by decide +kernel
theorem dX7_train_64 : decode cX7_train 64 = .ok (.aload_n 0, 1) := by decide +kernel
theorem dX7_train_65 : decode cX7_train 65 = .ok (.getfield 19, 3) := by decide +kernel
theorem dX7_train_68 : decode cX7_train 68 = .ok (.getfield 125, 3) := by decide +kernel
theorem dX7_train_71 : decode cX7_train 71 = .ok (.iload_n 1, 1) := by decide +kernel
theorem dX7_train_72 : decode cX7_train 72 = .ok (.iaload, 1) := by decide +kernel
theorem dX7_train_73 : decode cX7_train 73 = .ok (.ireturn, 1) := by decide +kernel
theorem dX7_train_74 : decode cX7_train 74 = .ok (.aload_n 0, 1) := by decide +kernel
theorem dX7_train_75 : decode cX7_train 75 = .ok (.getfield 19, 3) := by decide +kernel
theorem dX7_train_78 : decode cX7_train 78 = .ok (.getfield 129, 3) := by decide +kernel
theorem dX7_train_81 : decode cX7_train 81 = .ok (.iload_n 1, 1) := by decide +kernel
theorem dX7_train_82 : decode cX7_train 82 = .ok (.iaload, 1) := by decide +kernel
theorem dX7_train_83 : decode cX7_train 83 = .ok (.ireturn, 1) := by decide +kernel
theorem dX7_train_84 : decode cX7_train 84 = .ok (.aload_n 0, 1) := by decide +kernel
theorem dX7_train_85 : decode cX7_train 85 = .ok (.getfield 26, 3) := by decide +kernel
theorem dX7_train_88 : decode cX7_train 88 = .ok (.getfield 132, 3) := by decide +kernel
theorem dX7_train_91 : decode cX7_train 91 = .ok (.iload_n 1, 1) := by decide +kernel
theorem dX7_train_92 : decode cX7_train 92 = .ok (.iaload, 1) := by decide +kernel
theorem dX7_train_93 : decode cX7_train 93 = .ok (.ireturn, 1) := by decide +kernel
theorem dX7_train_94 : decode cX7_train 94 = .ok (.aload_n 0, 1) := by decide +kernel
theorem dX7_train_95 : decode cX7_train 95 = .ok (.getfield 26, 3) := by decide +kernel
theorem dX7_train_98 : decode cX7_train 98 = .ok (.getfield 135, 3) := by decide +kernel
theorem dX7_train_101 : decode cX7_train 101 = .ok (.iload_n 1, 1) := by decide +kernel
theorem dX7_train_102 : decode cX7_train 102 = .ok (.iaload, 1) := by decide +kernel
theorem dX7_train_103 : decode cX7_train 103 = .ok (.ireturn, 1) := by decide +kernel
theorem dX7_train_104 : decode cX7_train 104 = .ok (.aload_n 0, 1) := by decide +kernel
theorem dX7_train_105 : decode cX7_train 105 = .ok (.getfield 26, 3) := by decide +kernel
theorem dX7_train_108 : decode cX7_train 108 = .ok (.getfield 138, 3) := by decide +kernel
theorem dX7_train_111 : decode cX7_train 111 = .ok (.iload_n 1, 1) := by decide +kernel
theorem dX7_train_112 : decode cX7_train 112 = .ok (.iaload, 1) := by decide +kernel
theorem dX7_train_113 : decode cX7_train 113 = .ok (.bipush 9, 2) := by decide +kernel
theorem dX7_train_115 : decode cX7_train 115 = .ok (.if_icmp .ne 8, 3) := by decide +kernel
theorem dX7_train_118 : decode cX7_train 118 = .ok (.bipush (-4), 2) := by decide +kernel
theorem dX7_train_120 : decode cX7_train 120 = .ok (.goto 12, 3) := by decide +kernel
theorem dX7_train_123 : decode cX7_train 123 = .ok (.aload_n 0, 1) := by decide +kernel
theorem dX7_train_124 : decode cX7_train 124 = .ok (.getfield 26, 3) := by decide +kernel
theorem dX7_train_127 : decode cX7_train 127 = .ok (.getfield 138, 3) := by decide +kernel
theorem dX7_train_130 : decode cX7_train 130 = .ok (.iload_n 1, 1) := by decide +kernel
theorem dX7_train_131 : decode cX7_train 131 = .ok (.iaload, 1) := by decide +kernel
theorem dX7_train_132 : decode cX7_train 132 = .ok (.ireturn, 1) := by decide +kernel
theorem dX7_train_133 : decode cX7_train 133 = .ok (.aload_n 0, 1) := by decide +kernel
theorem dX7_train_134 : decode cX7_train 134 = .ok (.getfield 19, 3) := by decide +kernel
theorem dX7_train_137 : decode cX7_train 137 = .ok (.getfield 141, 3) := by decide +kernel
theorem dX7_train_140 : decode cX7_train 140 = .ok (.iload_n 1, 1) := by decide +kernel
theorem dX7_train_141 : decode cX7_train 141 = .ok (.iaload, 1) := by decide +kernel
theorem dX7_train_142 : decode cX7_train 142 = .ok (.ireturn, 1) := by decide +kernel
theorem dX7_train_143 : decode cX7_train 143 = .ok (.aload_n 0, 1) := by decide +kernel
theorem dX7_train_144 : decode cX7_train 144 = .ok (.getfield 26, 3) := by decide +kernel
theorem dX7_train_147 : decode cX7_train 147 = .ok (.getfield 144, 3) := by decide +kernel
theorem dX7_train_150 : decode cX7_train 150 = .ok (.iload_n 1, 1) := by decide +kernel
theorem dX7_train_151 : decode cX7_train 151 = .ok (.iaload, 1) := by decide +kernel
theorem dX7_train_152 : decode cX7_train 152 = .ok (.ireturn, 1) := by decide +kernel
theorem dX7_train_153 : decode cX7_train 153 = .ok (.aload_n 0, 1) := by decide +kernel
theorem dX7_train_154 : decode cX7_train 154 = .ok (.iload_n 1, 1) := by decide +kernel
theorem dX7_train_155 : decode cX7_train 155 = .ok (.invokevirtual 147, 3) := by decide +kernel
theorem dX7_train_158 : decode cX7_train 158 = .ok (.ireturn, 1) := by decide +kernel
theorem dX7_train_159 : decode cX7_train 159 = .ok (.aload_n 0, 1) := by decide +kernel
theorem dX7_train_160 : decode cX7_train 160 = .ok (.getfield 47, 3) := by decide +kernel
theorem dX7_train_163 : decode cX7_train 163 = .ok (.iload_n 1, 1) := by decide +kernel
theorem dX7_train_164 : decode cX7_train 164 = .ok (.invokevirtual 150, 3) := by decide +kernel
theorem dX7_train_167 : decode cX7_train 167 = .ok (.ireturn, 1) := by decide +kernel
theorem dX7_train_168 : decode cX7_train 168 = .ok (.iconst (-1), 1) := by decide +kernel
theorem dX7_train_169 : decode cX7_train 169 = .ok (.ireturn, 1) := by decide +kernel
theorem dX7_fittingTracks_0 : decode cX7_fittingTracks 0 = .ok (.iconst 0, 1) := by decide +kernel
theorem dX7_fittingTracks_1 : decode cX7_fittingTracks 1 = .ok (.istore_n 2, 1) := by decide +kernel
theorem dX7_fittingTracks_2 : decode cX7_fittingTracks 2 = .ok (.iconst 0, 1) := by decide +kernel
theorem dX7_fittingTracks_3 : decode cX7_fittingTracks 3 = .ok (.istore_n 3, 1) := by decide +kernel
theorem dX7_fittingTracks_4 : decode cX7_fittingTracks 4 = .ok (.iload_n 3, 1) := by decide +kernel
theorem dX7_fittingTracks_5 : decode cX7_fittingTracks 5 = .ok (.aload_n 0, 1) := by decide +kernel
theorem dX7_fittingTracks_6 : decode cX7_fittingTracks 6 = .ok (.getfield 19, 3) := by decide +kernel
theorem dX7_fittingTracks_9 : decode cX7_fittingTracks 9 = .ok (.getfield 153, 3) := by decide +kernel
theorem dX7_fittingTracks_12 : decode cX7_fittingTracks 12 = .ok (.if_icmp .ge 27, 3) := by decide +kernel
theorem dX7_fittingTracks_15 : decode cX7_fittingTracks 15 = .ok (.aload_n 0, 1) := by decide +kernel
theorem dX7_fittingTracks_16 : decode cX7_fittingTracks 16 = .ok (.getfield 19, 3) := by decide +kernel
theorem dX7_fittingTracks_19 : decode cX7_fittingTracks 19 = .ok (.iload_n 1, 1) := by decide +kernel
theorem dX7_fittingTracks_20 : decode cX7_fittingTracks 20 = .ok (.iload_n 3, 1) := by decide +kernel
theorem dX7_fittingTracks_21 : decode cX7_fittingTracks 21 = .ok (.invokevirtual 156, 3) := by decide +kernel
theorem dX7_fittingTracks_24 : decode cX7_fittingTracks 24 = .ok (.ifCond .eq 9, 3) := by decide +kernel
theorem dX7_fittingTracks_27 : decode cX7_fittingTracks 27 = .ok (.iload_n 2, 1) := by decide +kernel
theorem dX7_fittingTracks_28 : decode cX7_fittingTracks 28 = .ok (.iconst 1, 1) := by decide +kernel
theorem dX7_fittingTracks_29 : decode cX7_fittingTracks 29 = .ok (.iload_n 3, 1) := by decide +kernel
theorem dX7_fittingTracks_30 : decode cX7_fittingTracks 30 = .ok (.ishl, 1) := by decide +kernel
theorem dX7_fittingTracks_31 : decode cX7_fittingTracks 31 = .ok (.ior, 1) := by decide +kernel
theorem dX7_fittingTracks_32 : decode cX7_fittingTracks 32 = .ok (.istore_n 2, 1) := by decide +kernel
theorem dX7_fittingTracks_33 : decode cX7_fittingTracks 33 = .ok (.iinc 3 1, 3) := by decide +kernel
theorem dX7_fittingTracks_36 : decode cX7_fittingTracks 36 = .ok (.goto (-32), 3) := by decide +kernel
theorem dX7_fittingTracks_39 : decode cX7_fittingTracks 39 = .ok (.iload_n 2, 1) := by decide +kernel
theorem dX7_fittingTracks_40 : decode cX7_fittingTracks 40 = .ok (.ireturn, 1) := by decide +kernel
theorem dX7_give_0 : decode cX7_give 0 = .ok (.aload_n 0, 1) := by decide +kernel
theorem dX7_give_1 : decode cX7_give 1 = .ok (.getfield 19, 3) := by decide +kernel
theorem dX7_give_4 : decode cX7_give 4 = .ok (.iload_n 1, 1) := by decide +kernel
theorem dX7_give_5 : decode cX7_give 5 = .ok (.invokevirtual 122, 3) := by decide +kernel
theorem dX7_give_8 : decode cX7_give 8 = .ok (.ifCond .eq 14, 3) := by decide +kernel
theorem dX7_give_11 : decode cX7_give 11 = .ok (.aload_n 0, 1) := by decide +kernel
theorem dX7_give_12 : decode cX7_give 12 = .ok (.getfield 19, 3) := by decide +kernel
theorem dX7_give_15 : decode cX7_give 15 = .ok (.iload_n 2, 1) := by decide +kernel
theorem dX7_give_16 : decode cX7_give 16 = .ok (.invokevirtual 115, 3) := by decide +kernel
theorem dX7_give_19 : decode cX7_give 19 = .ok (.ifCond .ne 5, 3) := by decide +kernel
theorem dX7_give_22 : decode cX7_give 22 = .ok (.iconst (-1), 1) := by decide +kernel
theorem dX7_give_23 : decode cX7_give 23 = .ok (.ireturn, 1) := by decide +kernel
theorem dX7_give_24 : decode cX7_give 24 = .ok (.aload_n 0, 1) := by decide +kernel
theorem dX7_give_25 : decode cX7_give 25 = .ok (.getfield 26, 3) := by decide +kernel
theorem dX7_give_28 : decode cX7_give 28 = .ok (.getfield 144, 3) := by decide +kernel
theorem dX7_give_31 : decode cX7_give 31 = .ok (.iload_n 1, 1) := by decide +kernel
theorem dX7_give_32 : decode cX7_give 32 = .ok (.iaload, 1) := by decide +kernel
theorem dX7_give_33 : decode cX7_give 33 = .ok (.bipush (-4), 2) := by decide +kernel
theorem dX7_give_35 : decode cX7_give 35 = .ok (.if_icmp .ne 15, 3) := by decide +kernel
theorem dX7_give_38 : decode cX7_give 38 = .ok (.aload_n 0, 1) := by decide +kernel
theorem dX7_give_39 : decode cX7_give 39 = .ok (.getfield 47, 3) := by decide +kernel
theorem dX7_give_42 : decode cX7_give 42 = .ok (.iload_n 1, 1) := by decide +kernel
theorem dX7_give_43 : decode cX7_give 43 = .ok (.iload_n 2, 1) := by decide +kernel
theorem dX7_give_44 : decode cX7_give 44 = .ok (.invokevirtual 160, 3) := by decide +kernel
theorem dX7_give_47 : decode cX7_give 47 = .ok (.ifCond .ne 6, 3) := by decide +kernel
theorem dX7_give_50 : decode cX7_give 50 = .ok (.bipush (-2), 2) := by decide +kernel
theorem dX7_give_52 : decode cX7_give 52 = .ok (.ireturn, 1) := by decide +kernel
theorem dX7_give_53 : decode cX7_give 53 = .ok (.aload_n 0, 1) := by decide +kernel
theorem dX7_give_54 : decode cX7_give 54 = .ok (.getfield 63, 3) := by decide +kernel
theorem dX7_give_57 : decode cX7_give 57 = .ok (.aload_n 0, 1) := by decide +kernel
theorem dX7_give_58 : decode cX7_give 58 = .ok (.getfield 26, 3) := by decide +kernel
theorem dX7_give_61 : decode cX7_give 61 = .ok (.invokevirtual 163, 3) := by decide +kernel
theorem dX7_give_64 : decode cX7_give 64 = .ok (.aload_n 0, 1) := by decide +kernel
theorem dX7_give_65 : decode cX7_give 65 = .ok (.getfield 26, 3) := by decide +kernel
theorem dX7_give_68 : decode cX7_give 68 = .ok (.getfield 144, 3) := by decide +kernel
theorem dX7_give_71 : decode cX7_give 71 = .ok (.iload_n 1, 1) := by decide +kernel
theorem dX7_give_72 : decode cX7_give 72 = .ok (.iload_n 2, 1) := by decide +kernel
theorem dX7_give_73 : decode cX7_give 73 = .ok (.iastore, 1) := by decide +kernel
theorem dX7_give_74 : decode cX7_give 74 = .ok (.aload_n 0, 1) := by decide +kernel
theorem dX7_give_75 : decode cX7_give 75 = .ok (.invokevirtual 167, 3) := by decide +kernel
theorem dX7_give_78 : decode cX7_give 78 = .ok (.ireturn, 1) := by decide +kernel
theorem dX7_take_0 : decode cX7_take 0 = .ok (.aload_n 0, 1) := by decide +kernel
theorem dX7_take_1 : decode cX7_take 1 = .ok (.getfield 19, 3) := by decide +kernel
theorem dX7_take_4 : decode cX7_take 4 = .ok (.iload_n 1, 1) := by decide +kernel
theorem dX7_take_5 : decode cX7_take 5 = .ok (.invokevirtual 122, 3) := by decide +kernel
theorem dX7_take_8 : decode cX7_take 8 = .ok (.ifCond .ne 5, 3) := by decide +kernel
theorem dX7_take_11 : decode cX7_take 11 = .ok (.iconst (-1), 1) := by decide +kernel
theorem dX7_take_12 : decode cX7_take 12 = .ok (.ireturn, 1) := by decide +kernel
theorem dX7_take_13 : decode cX7_take 13 = .ok (.aload_n 0, 1) := by decide +kernel
theorem dX7_take_14 : decode cX7_take 14 = .ok (.getfield 26, 3) := by decide +kernel
theorem dX7_take_17 : decode cX7_take 17 = .ok (.getfield 144, 3) := by decide +kernel
theorem dX7_take_20 : decode cX7_take 20 = .ok (.iload_n 1, 1) := by decide +kernel
theorem dX7_take_21 : decode cX7_take 21 = .ok (.iaload, 1) := by decide +kernel
theorem dX7_take_22 : decode cX7_take 22 = .ok (.istore_n 2, 1) := by decide +kernel
theorem dX7_take_23 : decode cX7_take 23 = .ok (.iload_n 2, 1) := by decide +kernel
theorem dX7_take_24 : decode cX7_take 24 = .ok (.bipush (-4), 2) := by decide +kernel
theorem dX7_take_26 : decode cX7_take 26 = .ok (.if_icmp .ne 6, 3) := by decide +kernel
theorem dX7_take_29 : decode cX7_take 29 = .ok (.bipush (-2), 2) := by decide +kernel
theorem dX7_take_31 : decode cX7_take 31 = .ok (.ireturn, 1) := by decide +kernel
theorem dX7_take_32 : decode cX7_take 32 = .ok (.aload_n 0, 1) := by decide +kernel
theorem dX7_take_33 : decode cX7_take 33 = .ok (.getfield 63, 3) := by decide +kernel
theorem dX7_take_36 : decode cX7_take 36 = .ok (.aload_n 0, 1) := by decide +kernel
theorem dX7_take_37 : decode cX7_take 37 = .ok (.getfield 26, 3) := by decide +kernel
theorem dX7_take_40 : decode cX7_take 40 = .ok (.invokevirtual 163, 3) := by decide +kernel
theorem dX7_take_43 : decode cX7_take 43 = .ok (.aload_n 0, 1) := by decide +kernel
theorem dX7_take_44 : decode cX7_take 44 = .ok (.getfield 26, 3) := by decide +kernel
theorem dX7_take_47 : decode cX7_take 47 = .ok (.getfield 144, 3) := by decide +kernel
theorem dX7_take_50 : decode cX7_take 50 = .ok (.iload_n 1, 1) := by decide +kernel
theorem dX7_take_51 : decode cX7_take 51 = .ok (.bipush (-4), 2) := by decide +kernel
theorem dX7_take_53 : decode cX7_take 53 = .ok (.iastore, 1) := by decide +kernel
theorem dX7_take_54 : decode cX7_take 54 = .ok (.iload_n 2, 1) := by decide +kernel
theorem dX7_take_55 : decode cX7_take 55 = .ok (.ireturn, 1) := by decide +kernel
theorem dX7_why_0 : decode cX7_why 0 = .ok (.aload_n 0, 1) := by decide +kernel
theorem dX7_why_1 : decode cX7_why 1 = .ok (.getfield 19, 3) := by decide +kernel
theorem dX7_why_4 : decode cX7_why 4 = .ok (.iload_n 1, 1) := by decide +kernel
theorem dX7_why_5 : decode cX7_why 5 = .ok (.invokevirtual 122, 3) := by decide +kernel
theorem dX7_why_8 : decode cX7_why 8 = .ok (.ifCond .eq 14, 3) := by decide +kernel
theorem dX7_why_11 : decode cX7_why 11 = .ok (.aload_n 0, 1) := by decide +kernel
theorem dX7_why_12 : decode cX7_why 12 = .ok (.getfield 19, 3) := by decide +kernel
theorem dX7_why_15 : decode cX7_why 15 = .ok (.iload_n 2, 1) := by decide +kernel
theorem dX7_why_16 : decode cX7_why 16 = .ok (.invokevirtual 115, 3) := by decide +kernel
theorem dX7_why_19 : decode cX7_why 19 = .ok (.ifCond .ne 5, 3) := by decide +kernel
theorem dX7_why_22 : decode cX7_why 22 = .ok (.iconst (-1), 1) := by decide +kernel
theorem dX7_why_23 : decode cX7_why 23 = .ok (.ireturn, 1) := by decide +kernel
theorem dX7_why_24 : decode cX7_why 24 = .ok (.aload_n 0, 1) := by decide +kernel
theorem dX7_why_25 : decode cX7_why 25 = .ok (.getfield 19, 3) := by decide +kernel
theorem dX7_why_28 : decode cX7_why 28 = .ok (.iload_n 1, 1) := by decide +kernel
theorem dX7_why_29 : decode cX7_why 29 = .ok (.iload_n 2, 1) := by decide +kernel
theorem dX7_why_30 : decode cX7_why 30 = .ok (.invokevirtual 170, 3) := by decide +kernel
theorem dX7_why_33 : decode cX7_why 33 = .ok (.bipush (-4), 2) := by decide +kernel
theorem dX7_why_35 : decode cX7_why 35 = .ok (.if_icmp .ne 5, 3) := by decide +kernel
theorem dX7_why_38 : decode cX7_why 38 = .ok (.iconst 1, 1) := by decide +kernel
theorem dX7_why_39 : decode cX7_why 39 = .ok (.ireturn, 1) := by decide +kernel
theorem dX7_why_40 : decode cX7_why 40 = .ok (.aload_n 0, 1) := by decide +kernel
theorem dX7_why_41 : decode cX7_why 41 = .ok (.getfield 19, 3) := by decide +kernel
theorem dX7_why_44 : decode cX7_why 44 = .ok (.iload_n 1, 1) := by decide +kernel
theorem dX7_why_45 : decode cX7_why 45 = .ok (.iload_n 2, 1) := by decide +kernel
theorem dX7_why_46 : decode cX7_why 46 = .ok (.invokevirtual 173, 3) := by decide +kernel
theorem dX7_why_49 : decode cX7_why 49 = .ok (.bipush (-4), 2) := by decide +kernel
theorem dX7_why_51 : decode cX7_why 51 = .ok (.if_icmp .ne 5, 3) := by decide +kernel
theorem dX7_why_54 : decode cX7_why 54 = .ok (.iconst 2, 1) := by decide +kernel
theorem dX7_why_55 : decode cX7_why 55 = .ok (.ireturn, 1) := by decide +kernel
theorem dX7_why_56 : decode cX7_why 56 = .ok (.aload_n 0, 1) := by decide +kernel
theorem dX7_why_57 : decode cX7_why 57 = .ok (.getfield 47, 3) := by decide +kernel
theorem dX7_why_60 : decode cX7_why 60 = .ok (.iload_n 1, 1) := by decide +kernel
theorem dX7_why_61 : decode cX7_why 61 = .ok (.iload_n 2, 1) := by decide +kernel
theorem dX7_why_62 : decode cX7_why 62 = .ok (.invokevirtual 176, 3) := by decide +kernel
theorem dX7_why_65 : decode cX7_why 65 = .ok (.istore_n 3, 1) := by decide +kernel
theorem dX7_why_66 : decode cX7_why 66 = .ok (.iload_n 3, 1) := by decide +kernel
theorem dX7_why_67 : decode cX7_why 67 = .ok (.bipush (-4), 2) := by decide +kernel
theorem dX7_why_69 : decode cX7_why 69 = .ok (.if_icmp .ne 7, 3) := by decide +kernel
theorem dX7_why_72 : decode cX7_why 72 = .ok (.iconst 0, 1) := by decide +kernel
theorem dX7_why_73 : decode cX7_why 73 = .ok (.goto 6, 3) := by decide +kernel
theorem dX7_why_76 : decode cX7_why 76 = .ok (.iconst 3, 1) := by decide +kernel
theorem dX7_why_77 : decode cX7_why 77 = .ok (.iload_n 3, 1) := by decide +kernel
theorem dX7_why_78 : decode cX7_why 78 = .ok (.iadd, 1) := by decide +kernel
theorem dX7_why_79 : decode cX7_why 79 = .ok (.ireturn, 1) := by decide +kernel
theorem dX7_clash_0 : decode cX7_clash 0 = .ok (.aload_n 0, 1) := by decide +kernel
theorem dX7_clash_1 : decode cX7_clash 1 = .ok (.getfield 19, 3) := by decide +kernel
theorem dX7_clash_4 : decode cX7_clash 4 = .ok (.iload_n 1, 1) := by decide +kernel
theorem dX7_clash_5 : decode cX7_clash 5 = .ok (.invokevirtual 122, 3) := by decide +kernel
theorem dX7_clash_8 : decode cX7_clash 8 = .ok (.ifCond .eq 19, 3) := by decide +kernel
theorem dX7_clash_11 : decode cX7_clash 11 = .ok (.aload_n 0, 1) := by decide +kernel
theorem dX7_clash_12 : decode cX7_clash 12 = .ok (.getfield 19, 3) := by decide +kernel
theorem dX7_clash_15 : decode cX7_clash 15 = .ok (.iload_n 3, 1) := by decide +kernel
theorem dX7_clash_16 : decode cX7_clash 16 = .ok (.invokevirtual 122, 3) := by decide +kernel
theorem dX7_clash_19 : decode cX7_clash 19 = .ok (.ifCond .eq 8, 3) := by decide +kernel
theorem dX7_clash_22 : decode cX7_clash 22 = .ok (.iload_n 1, 1) := by decide +kernel
theorem dX7_clash_23 : decode cX7_clash 23 = .ok (.iload_n 3, 1) := by decide +kernel
theorem dX7_clash_24 : decode cX7_clash 24 = .ok (.if_icmp .ne 5, 3) := by decide +kernel
theorem dX7_clash_27 : decode cX7_clash 27 = .ok (.iconst (-1), 1) := by decide +kernel
theorem dX7_clash_28 : decode cX7_clash 28 = .ok (.ireturn, 1) := by decide +kernel
theorem dX7_clash_29 : decode cX7_clash 29 = .ok (.aload_n 0, 1) := by decide +kernel
theorem dX7_clash_30 : decode cX7_clash 30 = .ok (.getfield 19, 3) := by decide +kernel
theorem dX7_clash_33 : decode cX7_clash 33 = .ok (.iload_n 2, 1) := by decide +kernel
theorem dX7_clash_34 : decode cX7_clash 34 = .ok (.invokevirtual 115, 3) := by decide +kernel
theorem dX7_clash_37 : decode cX7_clash 37 = .ok (.ifCond .eq 15, 3) := by decide +kernel
theorem dX7_clash_40 : decode cX7_clash 40 = .ok (.aload_n 0, 1) := by decide +kernel
theorem dX7_clash_41 : decode cX7_clash 41 = .ok (.getfield 19, 3) := by decide +kernel
theorem dX7_clash_44 : decode cX7_clash 44 = .ok (.iload 4, 2) := by decide +kernel
theorem dX7_clash_46 : decode cX7_clash 46 = .ok (.invokevirtual 115, 3) := by decide +kernel
theorem dX7_clash_49 : decode cX7_clash 49 = .ok (.ifCond .ne 5, 3) := by decide +kernel
theorem dX7_clash_52 : decode cX7_clash 52 = .ok (.iconst (-1), 1) := by decide +kernel
theorem dX7_clash_53 : decode cX7_clash 53 = .ok (.ireturn, 1) := by decide +kernel
theorem dX7_clash_54 : decode cX7_clash 54 = .ok (.aload_n 0, 1) := by decide +kernel
theorem dX7_clash_55 : decode cX7_clash 55 = .ok (.getfield 47, 3) := by decide +kernel
theorem dX7_clash_58 : decode cX7_clash 58 = .ok (.iload_n 1, 1) := by decide +kernel
theorem dX7_clash_59 : decode cX7_clash 59 = .ok (.iload_n 2, 1) := by decide +kernel
theorem dX7_clash_60 : decode cX7_clash 60 = .ok (.iload_n 3, 1) := by decide +kernel
theorem dX7_clash_61 : decode cX7_clash 61 = .ok (.iload 4, 2) := by decide +kernel
theorem dX7_clash_63 : decode cX7_clash 63 = .ok (.invokevirtual 179, 3) := by decide +kernel
theorem dX7_clash_66 : decode cX7_clash 66 = .ok (.ireturn, 1) := by decide +kernel
theorem dX7_late_0 : decode cX7_late 0 = .ok (.aload_n 0, 1) := by decide +kernel
theorem dX7_late_1 : decode cX7_late 1 = .ok (.getfield 19, 3) := by decide +kernel
theorem dX7_late_4 : decode cX7_late 4 = .ok (.iload_n 1, 1) := by decide +kernel
theorem dX7_late_5 : decode cX7_late 5 = .ok (.invokevirtual 122, 3) := by decide +kernel
theorem dX7_late_8 : decode cX7_late 8 = .ok (.ifCond .eq 19, 3) := by decide +kernel
theorem dX7_late_11 : decode cX7_late 11 = .ok (.iload_n 2, 1) := by decide +kernel
theorem dX7_late_12 : decode cX7_late 12 = .ok (.ifCond .eq 15, 3) := by decide +kernel
theorem dX7_late_15 : decode cX7_late 15 = .ok (.iload_n 2, 1) := by decide +kernel
theorem dX7_late_16 : decode cX7_late 16 = .ok (.bipush (-20), 2) := by decide +kernel
theorem dX7_late_18 : decode cX7_late 18 = .ok (.if_icmp .lt 9, 3) := by decide +kernel
theorem dX7_late_21 : decode cX7_late 21 = .ok (.iload_n 2, 1) := by decide +kernel
theorem dX7_late_22 : decode cX7_late 22 = .ok (.bipush 60, 2) := by decide +kernel
theorem dX7_late_24 : decode cX7_late 24 = .ok (.if_icmp .le 5, 3) := by decide +kernel
theorem dX7_late_27 : decode cX7_late 27 = .ok (.iconst (-1), 1) := by decide +kernel
theorem dX7_late_28 : decode cX7_late 28 = .ok (.ireturn, 1) := by decide +kernel
theorem dX7_late_29 : decode cX7_late 29 = .ok (.aload_n 0, 1) := by decide +kernel
theorem dX7_late_30 : decode cX7_late 30 = .ok (.getfield 26, 3) := by decide +kernel
theorem dX7_late_33 : decode cX7_late 33 = .ok (.getfield 132, 3) := by decide +kernel
theorem dX7_late_36 : decode cX7_late 36 = .ok (.iload_n 1, 1) := by decide +kernel
theorem dX7_late_37 : decode cX7_late 37 = .ok (.iaload, 1) := by decide +kernel
theorem dX7_late_38 : decode cX7_late 38 = .ok (.iload_n 2, 1) := by decide +kernel
theorem dX7_late_39 : decode cX7_late 39 = .ok (.iadd, 1) := by decide +kernel
theorem dX7_late_40 : decode cX7_late 40 = .ok (.iconst 1, 1) := by decide +kernel
theorem dX7_late_41 : decode cX7_late 41 = .ok (.if_icmp .lt 19, 3) := by decide +kernel
theorem dX7_late_44 : decode cX7_late 44 = .ok (.aload_n 0, 1) := by decide +kernel
theorem dX7_late_45 : decode cX7_late 45 = .ok (.getfield 26, 3) := by decide +kernel
theorem dX7_late_48 : decode cX7_late 48 = .ok (.getfield 135, 3) := by decide +kernel
theorem dX7_late_51 : decode cX7_late 51 = .ok (.iload_n 1, 1) := by decide +kernel
theorem dX7_late_52 : decode cX7_late 52 = .ok (.iaload, 1) := by decide +kernel
theorem dX7_late_53 : decode cX7_late 53 = .ok (.iload_n 2, 1) := by decide +kernel
theorem dX7_late_54 : decode cX7_late 54 = .ok (.iadd, 1) := by decide +kernel
theorem dX7_late_55 : decode cX7_late 55 = .ok (.bipush 98, 2) := by decide +kernel
theorem dX7_late_57 : decode cX7_late 57 = .ok (.if_icmp .le 6, 3) := by decide +kernel
theorem dX7_late_60 : decode cX7_late 60 = .ok (.bipush (-2), 2) := by decide +kernel
theorem dX7_late_62 : decode cX7_late 62 = .ok (.ireturn, 1) := by decide +kernel
theorem dX7_late_63 : decode cX7_late 63 = .ok (.aload_n 0, 1) := by decide +kernel
theorem dX7_late_64 : decode cX7_late 64 = .ok (.getfield 63, 3) := by decide +kernel
theorem dX7_late_67 : decode cX7_late 67 = .ok (.aload_n 0, 1) := by decide +kernel
theorem dX7_late_68 : decode cX7_late 68 = .ok (.getfield 26, 3) := by decide +kernel
theorem dX7_late_71 : decode cX7_late 71 = .ok (.invokevirtual 163, 3) := by decide +kernel
theorem dX7_late_74 : decode cX7_late 74 = .ok (.aload_n 0, 1) := by decide +kernel
theorem dX7_late_75 : decode cX7_late 75 = .ok (.getfield 26, 3) := by decide +kernel
theorem dX7_late_78 : decode cX7_late 78 = .ok (.getfield 132, 3) := by decide +kernel
theorem dX7_late_81 : decode cX7_late 81 = .ok (.iload_n 1, 1) := by decide +kernel
theorem dX7_late_82 : decode cX7_late 82 = .ok (.dup2, 1) := by decide +kernel
theorem dX7_late_83 : decode cX7_late 83 = .ok (.iaload, 1) := by decide +kernel
theorem dX7_late_84 : decode cX7_late 84 = .ok (.iload_n 2, 1) := by decide +kernel
theorem dX7_late_85 : decode cX7_late 85 = .ok (.iadd, 1) := by decide +kernel
theorem dX7_late_86 : decode cX7_late 86 = .ok (.iastore, 1) := by decide +kernel
theorem dX7_late_87 : decode cX7_late 87 = .ok (.aload_n 0, 1) := by decide +kernel
theorem dX7_late_88 : decode cX7_late 88 = .ok (.getfield 26, 3) := by decide +kernel
theorem dX7_late_91 : decode cX7_late 91 = .ok (.getfield 135, 3) := by decide +kernel
theorem dX7_late_94 : decode cX7_late 94 = .ok (.iload_n 1, 1) := by decide +kernel
theorem dX7_late_95 : decode cX7_late 95 = .ok (.dup2, 1) := by decide +kernel
theorem dX7_late_96 : decode cX7_late 96 = .ok (.iaload, 1) := by decide +kernel
theorem dX7_late_97 : decode cX7_late 97 = .ok (.iload_n 2, 1) := by decide +kernel
theorem dX7_late_98 : decode cX7_late 98 = .ok (.iadd, 1) := by decide +kernel
theorem dX7_late_99 : decode cX7_late 99 = .ok (.iastore, 1) := by decide +kernel
theorem dX7_late_100 : decode cX7_late 100 = .ok (.aload_n 0, 1) := by decide +kernel
theorem dX7_late_101 : decode cX7_late 101 = .ok (.getfield 47, 3) := by decide +kernel
theorem dX7_late_104 : decode cX7_late 104 = .ok (.invokevirtual 103, 3) := by decide +kernel
theorem dX7_late_107 : decode cX7_late 107 = .ok (.aload_n 0, 1) := by decide +kernel
theorem dX7_late_108 : decode cX7_late 108 = .ok (.getfield 26, 3) := by decide +kernel
theorem dX7_late_111 : decode cX7_late 111 = .ok (.getfield 144, 3) := by decide +kernel
theorem dX7_late_114 : decode cX7_late 114 = .ok (.iload_n 1, 1) := by decide +kernel
theorem dX7_late_115 : decode cX7_late 115 = .ok (.iaload, 1) := by decide +kernel
theorem dX7_late_116 : decode cX7_late 116 = .ok (.istore_n 3, 1) := by decide +kernel
theorem dX7_late_117 : decode cX7_late 117 = .ok (.iload_n 3, 1) := by decide +kernel
theorem dX7_late_118 : decode cX7_late 118 = .ok (.bipush (-4), 2) := by decide +kernel
theorem dX7_late_120 : decode cX7_late 120 = .ok (.if_icmp .eq 15, 3) := by decide +kernel
theorem dX7_late_123 : decode cX7_late 123 = .ok (.aload_n 0, 1) := by decide +kernel
theorem dX7_late_124 : decode cX7_late 124 = .ok (.getfield 47, 3) := by decide +kernel
theorem dX7_late_127 : decode cX7_late 127 = .ok (.iload_n 1, 1) := by decide +kernel
theorem dX7_late_128 : decode cX7_late 128 = .ok (.iload_n 3, 1) := by decide +kernel
theorem dX7_late_129 : decode cX7_late 129 = .ok (.invokevirtual 160, 3) := by decide +kernel
theorem dX7_late_132 : decode cX7_late 132 = .ok (.ifCond .eq 5, 3) := by decide +kernel
theorem dX7_late_135 : decode cX7_late 135 = .ok (.iconst 0, 1) := by decide +kernel
theorem dX7_late_136 : decode cX7_late 136 = .ok (.ireturn, 1) := by decide +kernel
theorem dX7_late_137 : decode cX7_late 137 = .ok (.aload_n 0, 1) := by decide +kernel
theorem dX7_late_138 : decode cX7_late 138 = .ok (.getfield 26, 3) := by decide +kernel
theorem dX7_late_141 : decode cX7_late 141 = .ok (.getfield 144, 3) := by decide +kernel
theorem dX7_late_144 : decode cX7_late 144 = .ok (.iload_n 1, 1) := by decide +kernel
theorem dX7_late_145 : decode cX7_late 145 = .ok (.bipush (-4), 2) := by decide +kernel
theorem dX7_late_147 : decode cX7_late 147 = .ok (.iastore, 1) := by decide +kernel
theorem dX7_late_148 : decode cX7_late 148 = .ok (.iconst 1, 1) := by decide +kernel
theorem dX7_late_149 : decode cX7_late 149 = .ok (.ireturn, 1) := by decide +kernel
theorem dX7_wish_0 : decode cX7_wish 0 = .ok (.aload_n 0, 1) := by decide +kernel
theorem dX7_wish_1 : decode cX7_wish 1 = .ok (.getfield 19, 3) := by decide +kernel
theorem dX7_wish_4 : decode cX7_wish 4 = .ok (.iload_n 1, 1) := by decide +kernel
theorem dX7_wish_5 : decode cX7_wish 5 = .ok (.invokevirtual 122, 3) := by decide +kernel
theorem dX7_wish_8 : decode cX7_wish 8 = .ok (.ifCond .eq 20, 3) := by decide +kernel
theorem dX7_wish_11 : decode cX7_wish 11 = .ok (.iload_n 2, 1) := by decide +kernel
theorem dX7_wish_12 : decode cX7_wish 12 = .ok (.bipush 9, 2) := by decide +kernel
theorem dX7_wish_14 : decode cX7_wish 14 = .ok (.if_icmp .eq 16, 3) := by decide +kernel
theorem dX7_wish_17 : decode cX7_wish 17 = .ok (.aload_n 0, 1) := by decide +kernel
theorem dX7_wish_18 : decode cX7_wish 18 = .ok (.getfield 19, 3) := by decide +kernel
theorem dX7_wish_21 : decode cX7_wish 21 = .ok (.iload_n 2, 1) := by decide +kernel
theorem dX7_wish_22 : decode cX7_wish 22 = .ok (.invokevirtual 115, 3) := by decide +kernel
theorem dX7_wish_25 : decode cX7_wish 25 = .ok (.ifCond .ne 5, 3) := by decide +kernel
theorem dX7_wish_28 : decode cX7_wish 28 = .ok (.iconst (-1), 1) := by decide +kernel
theorem dX7_wish_29 : decode cX7_wish 29 = .ok (.ireturn, 1) := by decide +kernel
theorem dX7_wish_30 : decode cX7_wish 30 = .ok (.aload_n 0, 1) := by decide +kernel
theorem dX7_wish_31 : decode cX7_wish 31 = .ok (.getfield 26, 3) := by decide +kernel
theorem dX7_wish_34 : decode cX7_wish 34 = .ok (.getfield 138, 3) := by decide +kernel
theorem dX7_wish_37 : decode cX7_wish 37 = .ok (.iload_n 1, 1) := by decide +kernel
theorem dX7_wish_38 : decode cX7_wish 38 = .ok (.iaload, 1) := by decide +kernel
theorem dX7_wish_39 : decode cX7_wish 39 = .ok (.istore_n 3, 1) := by decide +kernel
theorem dX7_wish_40 : decode cX7_wish 40 = .ok (.iload_n 3, 1) := by decide +kernel
theorem dX7_wish_41 : decode cX7_wish 41 = .ok (.iload_n 2, 1) := by decide +kernel
theorem dX7_wish_42 : decode cX7_wish 42 = .ok (.if_icmp .ne 6, 3) := by decide +kernel
theorem dX7_wish_45 : decode cX7_wish 45 = .ok (.bipush (-2), 2) := by decide +kernel
theorem dX7_wish_47 : decode cX7_wish 47 = .ok (.ireturn, 1) := by decide +kernel
theorem dX7_wish_48 : decode cX7_wish 48 = .ok (.aload_n 0, 1) := by decide +kernel
theorem dX7_wish_49 : decode cX7_wish 49 = .ok (.getfield 63, 3) := by decide +kernel
theorem dX7_wish_52 : decode cX7_wish 52 = .ok (.aload_n 0, 1) := by decide +kernel
theorem dX7_wish_53 : decode cX7_wish 53 = .ok (.getfield 26, 3) := by decide +kernel
theorem dX7_wish_56 : decode cX7_wish 56 = .ok (.invokevirtual 163, 3) := by decide +kernel
theorem dX7_wish_59 : decode cX7_wish 59 = .ok (.aload_n 0, 1) := by decide +kernel
theorem dX7_wish_60 : decode cX7_wish 60 = .ok (.getfield 26, 3) := by decide +kernel
theorem dX7_wish_63 : decode cX7_wish 63 = .ok (.getfield 138, 3) := by decide +kernel
theorem dX7_wish_66 : decode cX7_wish 66 = .ok (.iload_n 1, 1) := by decide +kernel
theorem dX7_wish_67 : decode cX7_wish 67 = .ok (.iload_n 2, 1) := by decide +kernel
theorem dX7_wish_68 : decode cX7_wish 68 = .ok (.iastore, 1) := by decide +kernel
theorem dX7_wish_69 : decode cX7_wish 69 = .ok (.iload_n 3, 1) := by decide +kernel
theorem dX7_wish_70 : decode cX7_wish 70 = .ok (.ireturn, 1) := by decide +kernel
theorem dX7_way_0 : decode cX7_way 0 = .ok (.iload_n 1, 1) := by decide +kernel
theorem dX7_way_1 : decode cX7_way 1 = .ok (.ifCond .eq 8, 3) := by decide +kernel
theorem dX7_way_4 : decode cX7_way 4 = .ok (.iload_n 1, 1) := by decide +kernel
theorem dX7_way_5 : decode cX7_way 5 = .ok (.iconst 1, 1) := by decide +kernel
theorem dX7_way_6 : decode cX7_way 6 = .ok (.if_icmp .ne 20, 3) := by decide +kernel
theorem dX7_way_9 : decode cX7_way 9 = .ok (.iload_n 2, 1) := by decide +kernel
theorem dX7_way_10 : decode cX7_way 10 = .ok (.bipush (-3), 2) := by decide +kernel
theorem dX7_way_12 : decode cX7_way 12 = .ok (.if_icmp .lt 14, 3) := by decide +kernel
theorem dX7_way_15 : decode cX7_way 15 = .ok (.iload_n 2, 1) := by decide +kernel
theorem dX7_way_16 : decode cX7_way 16 = .ok (.aload_n 0, 1) := by decide +kernel
theorem dX7_way_17 : decode cX7_way 17 = .ok (.getfield 19, 3) := by decide +kernel
theorem dX7_way_20 : decode cX7_way 20 = .ok (.getfield 109, 3) := by decide +kernel
theorem dX7_way_23 : decode cX7_way 23 = .ok (.if_icmp .lt 5, 3) := by decide +kernel
theorem dX7_way_26 : decode cX7_way 26 = .ok (.iconst (-1), 1) := by decide +kernel
theorem dX7_way_27 : decode cX7_way 27 = .ok (.ireturn, 1) := by decide +kernel
theorem dX7_way_28 : decode cX7_way 28 = .ok (.aload_n 0, 1) := by decide +kernel
theorem dX7_way_29 : decode cX7_way 29 = .ok (.getfield 56, 3) := by decide +kernel
theorem dX7_way_32 : decode cX7_way 32 = .ok (.iload_n 1, 1) := by decide +kernel
theorem dX7_way_33 : decode cX7_way 33 = .ok (.invokevirtual 183, 3) := by decide +kernel
theorem dX7_way_36 : decode cX7_way 36 = .ok (.iload_n 2, 1) := by decide +kernel
theorem dX7_way_37 : decode cX7_way 37 = .ok (.tableswitch 59 (-3) (-1) #[47, 35, 27], 27) := by decide +kernel
theorem dX7_way_64 : decode cX7_way 64 = .ok (.aload_n 0, 1) := by decide +kernel
theorem dX7_way_65 : decode cX7_way 65 = .ok (.getfield 56, 3) := by decide +kernel
theorem dX7_way_68 : decode cX7_way 68 = .ok (.invokevirtual 187, 3) := by decide +kernel
theorem dX7_way_71 : decode cX7_way 71 = .ok (.ireturn, 1) := by decide +kernel
theorem dX7_way_72 : decode cX7_way 72 = .ok (.aload_n 0, 1) := by decide +kernel
theorem dX7_way_73 : decode cX7_way 73 = .ok (.aload_n 0, 1) := by decide +kernel
theorem dX7_way_74 : decode cX7_way 74 = .ok (.getfield 56, 3) := by decide +kernel
theorem dX7_way_77 : decode cX7_way 77 = .ok (.getfield 190, 3) := by decide +kernel
theorem dX7_way_80 : decode cX7_way 80 = .ok (.invokevirtual 193, 3) := by decide +kernel
theorem dX7_way_83 : decode cX7_way 83 = .ok (.ireturn, 1) := by decide +kernel
theorem dX7_way_84 : decode cX7_way 84 = .ok (.aload_n 0, 1) := by decide +kernel
theorem dX7_way_85 : decode cX7_way 85 = .ok (.aload_n 0, 1) := by decide +kernel
theorem dX7_way_86 : decode cX7_way 86 = .ok (.getfield 56, 3) := by decide +kernel
theorem dX7_way_89 : decode cX7_way 89 = .ok (.getfield 190, 3) := by decide +kernel
theorem dX7_way_92 : decode cX7_way 92 = .ok (.invokevirtual 197, 3) := by decide +kernel
theorem dX7_way_95 : decode cX7_way 95 = .ok (.ireturn, 1) := by decide +kernel
theorem dX7_way_96 : decode cX7_way 96 = .ok (.aload_n 0, 1) := by decide +kernel
theorem dX7_way_97 : decode cX7_way 97 = .ok (.getfield 56, 3) := by decide +kernel
theorem dX7_way_100 : decode cX7_way 100 = .ok (.getfield 190, 3) := by decide +kernel
theorem dX7_way_103 : decode cX7_way 103 = .ok (.iload_n 2, 1) := by decide +kernel
theorem dX7_way_104 : decode cX7_way 104 = .ok (.iaload, 1) := by decide +kernel
theorem dX7_way_105 : decode cX7_way 105 = .ok (.ireturn, 1) := by decide +kernel
theorem dX7_adopt_0 : decode cX7_adopt 0 = .ok (.iload_n 1, 1) := by decide +kernel
theorem dX7_adopt_1 : decode cX7_adopt 1 = .ok (.ifCond .eq 10, 3) := by decide +kernel
theorem dX7_adopt_4 : decode cX7_adopt 4 = .ok (.iload_n 1, 1) := by decide +kernel
theorem dX7_adopt_5 : decode cX7_adopt 5 = .ok (.iconst 1, 1) := by decide +kernel
theorem dX7_adopt_6 : decode cX7_adopt 6 = .ok (.if_icmp .eq 5, 3) := by decide +kernel
theorem dX7_adopt_9 : decode cX7_adopt 9 = .ok (.iconst (-1), 1) := by decide +kernel
theorem dX7_adopt_10 : decode cX7_adopt 10 = .ok (.ireturn, 1) := by decide +kernel
theorem dX7_adopt_11 : decode cX7_adopt 11 = .ok (.aload_n 0, 1) := by decide +kernel
theorem dX7_adopt_12 : decode cX7_adopt 12 = .ok (.getfield 56, 3) := by decide +kernel
theorem dX7_adopt_15 : decode cX7_adopt 15 = .ok (.iload_n 1, 1) := by decide +kernel
theorem dX7_adopt_16 : decode cX7_adopt 16 = .ok (.invokevirtual 183, 3) := by decide +kernel
theorem dX7_adopt_19 : decode cX7_adopt 19 = .ok (.aload_n 0, 1) := by decide +kernel
theorem dX7_adopt_20 : decode cX7_adopt 20 = .ok (.aload_n 0, 1) := by decide +kernel
theorem dX7_adopt_21 : decode cX7_adopt 21 = .ok (.getfield 56, 3) := by decide +kernel
theorem dX7_adopt_24 : decode cX7_adopt 24 = .ok (.getfield 190, 3) := by decide +kernel
theorem dX7_adopt_27 : decode cX7_adopt 27 = .ok (.invokevirtual 197, 3) := by decide +kernel
theorem dX7_adopt_30 : decode cX7_adopt 30 = .ok (.istore_n 2, 1) := by decide +kernel
theorem dX7_adopt_31 : decode cX7_adopt 31 = .ok (.aload_n 0, 1) := by decide +kernel
theorem dX7_adopt_32 : decode cX7_adopt 32 = .ok (.getfield 63, 3) := by decide +kernel
theorem dX7_adopt_35 : decode cX7_adopt 35 = .ok (.aload_n 0, 1) := by decide +kernel
theorem dX7_adopt_36 : decode cX7_adopt 36 = .ok (.getfield 26, 3) := by decide +kernel
theorem dX7_adopt_39 : decode cX7_adopt 39 = .ok (.invokevirtual 163, 3) := by decide +kernel
theorem dX7_adopt_42 : decode cX7_adopt 42 = .ok (.aload_n 0, 1) := by decide +kernel
theorem dX7_adopt_43 : decode cX7_adopt 43 = .ok (.getfield 56, 3) := by decide +kernel
theorem dX7_adopt_46 : decode cX7_adopt 46 = .ok (.getfield 190, 3) := by decide +kernel
theorem dX7_adopt_49 : decode cX7_adopt 49 = .ok (.iconst 0, 1) := by decide +kernel
theorem dX7_adopt_50 : decode cX7_adopt 50 = .ok (.aload_n 0, 1) := by decide +kernel
theorem dX7_adopt_51 : decode cX7_adopt 51 = .ok (.getfield 26, 3) := by decide +kernel
theorem dX7_adopt_54 : decode cX7_adopt 54 = .ok (.getfield 144, 3) := by decide +kernel
theorem dX7_adopt_57 : decode cX7_adopt 57 = .ok (.iconst 0, 1) := by decide +kernel
theorem dX7_adopt_58 : decode cX7_adopt 58 = .ok (.aload_n 0, 1) := by decide +kernel
theorem dX7_adopt_59 : decode cX7_adopt 59 = .ok (.getfield 19, 3) := by decide +kernel
theorem dX7_adopt_62 : decode cX7_adopt 62 = .ok (.getfield 109, 3) := by decide +kernel
theorem dX7_adopt_65 : decode cX7_adopt 65 = .ok (.invokestatic 200, 3) := by decide +kernel
theorem dX7_adopt_68 : decode cX7_adopt 68 = .ok (.iload_n 2, 1) := by decide +kernel
theorem dX7_adopt_69 : decode cX7_adopt 69 = .ok (.ireturn, 1) := by decide +kernel
theorem dX7_without_0 : decode cX7_without 0 = .ok (.iload_n 1, 1) := by decide +kernel
theorem dX7_without_1 : decode cX7_without 1 = .ok (.ifCond .lt 9, 3) := by decide +kernel
theorem dX7_without_4 : decode cX7_without 4 = .ok (.iload_n 1, 1) := by decide +kernel
theorem dX7_without_5 : decode cX7_without 5 = .ok (.bipush 12, 2) := by decide +kernel
theorem dX7_without_7 : decode cX7_without 7 = .ok (.if_icmp .lt 5, 3) := by decide +kernel
theorem dX7_without_10 : decode cX7_without 10 = .ok (.iconst (-1), 1) := by decide +kernel
theorem dX7_without_11 : decode cX7_without 11 = .ok (.ireturn, 1) := by decide +kernel
theorem dX7_without_12 : decode cX7_without 12 = .ok (.aload_n 0, 1) := by decide +kernel
theorem dX7_without_13 : decode cX7_without 13 = .ok (.getfield 56, 3) := by decide +kernel
theorem dX7_without_16 : decode cX7_without 16 = .ok (.iconst 1, 1) := by decide +kernel
theorem dX7_without_17 : decode cX7_without 17 = .ok (.iload_n 1, 1) := by decide +kernel
theorem dX7_without_18 : decode cX7_without 18 = .ok (.ishl, 1) := by decide +kernel
theorem dX7_without_19 : decode cX7_without 19 = .ok (.invokevirtual 206, 3) := by decide +kernel
theorem dX7_without_22 : decode cX7_without 22 = .ok (.aload_n 0, 1) := by decide +kernel
theorem dX7_without_23 : decode cX7_without 23 = .ok (.getfield 56, 3) := by decide +kernel
theorem dX7_without_26 : decode cX7_without 26 = .ok (.invokevirtual 187, 3) := by decide +kernel
theorem dX7_without_29 : decode cX7_without 29 = .ok (.ireturn, 1) := by decide +kernel
theorem dX7_undo_0 : decode cX7_undo 0 = .ok (.aload_n 0, 1) := by decide +kernel
theorem dX7_undo_1 : decode cX7_undo 1 = .ok (.getfield 63, 3) := by decide +kernel
theorem dX7_undo_4 : decode cX7_undo 4 = .ok (.getfield 106, 3) := by decide +kernel
theorem dX7_undo_7 : decode cX7_undo 7 = .ok (.ifCond .ne 6, 3) := by decide +kernel
theorem dX7_undo_10 : decode cX7_undo 10 = .ok (.bipush (-2), 2) := by decide +kernel
theorem dX7_undo_12 : decode cX7_undo 12 = .ok (.ireturn, 1) := by decide +kernel
theorem dX7_undo_13 : decode cX7_undo 13 = .ok (.aload_n 0, 1) := by decide +kernel
theorem dX7_undo_14 : decode cX7_undo 14 = .ok (.getfield 63, 3) := by decide +kernel
theorem dX7_undo_17 : decode cX7_undo 17 = .ok (.aload_n 0, 1) := by decide +kernel
theorem dX7_undo_18 : decode cX7_undo 18 = .ok (.getfield 26, 3) := by decide +kernel
theorem dX7_undo_21 : decode cX7_undo 21 = .ok (.invokevirtual 209, 3) := by decide +kernel
theorem dX7_undo_24 : decode cX7_undo 24 = .ok (.aload_n 0, 1) := by decide +kernel
theorem dX7_undo_25 : decode cX7_undo 25 = .ok (.getfield 47, 3) := by decide +kernel
theorem dX7_undo_28 : decode cX7_undo 28 = .ok (.invokevirtual 103, 3) := by decide +kernel
theorem dX7_undo_31 : decode cX7_undo 31 = .ok (.aload_n 0, 1) := by decide +kernel
theorem dX7_undo_32 : decode cX7_undo 32 = .ok (.getfield 63, 3) := by decide +kernel
theorem dX7_undo_35 : decode cX7_undo 35 = .ok (.getfield 106, 3) := by decide +kernel
theorem dX7_undo_38 : decode cX7_undo 38 = .ok (.ireturn, 1) := by decide +kernel
theorem dX7_on_0 : decode cX7_on 0 = .ok (.aload_n 0, 1) := by decide +kernel
theorem dX7_on_1 : decode cX7_on 1 = .ok (.getfield 19, 3) := by decide +kernel
theorem dX7_on_4 : decode cX7_on 4 = .ok (.iload_n 1, 1) := by decide +kernel
theorem dX7_on_5 : decode cX7_on 5 = .ok (.invokevirtual 115, 3) := by decide +kernel
theorem dX7_on_8 : decode cX7_on 8 = .ok (.ifCond .eq 13, 3) := by decide +kernel
theorem dX7_on_11 : decode cX7_on 11 = .ok (.iload_n 2, 1) := by decide +kernel
theorem dX7_on_12 : decode cX7_on 12 = .ok (.ifCond .lt 9, 3) := by decide +kernel
theorem dX7_on_15 : decode cX7_on 15 = .ok (.iload_n 2, 1) := by decide +kernel
theorem dX7_on_16 : decode cX7_on 16 = .ok (.bipush 100, 2) := by decide +kernel
theorem dX7_on_18 : decode cX7_on 18 = .ok (.if_icmp .lt 5, 3) := by decide +kernel
theorem dX7_on_21 : decode cX7_on 21 = .ok (.iconst (-1), 1) := by decide +kernel
theorem dX7_on_22 : decode cX7_on 22 = .ok (.ireturn, 1) := by decide +kernel
theorem dX7_on_23 : decode cX7_on 23 = .ok (.aload_n 0, 1) := by decide +kernel
theorem dX7_on_24 : decode cX7_on 24 = .ok (.iload_n 1, 1) := by decide +kernel
theorem dX7_on_25 : decode cX7_on 25 = .ok (.iload_n 2, 1) := by decide +kernel
theorem dX7_on_26 : decode cX7_on 26 = .ok (.invokevirtual 212, 3) := by decide +kernel
theorem dX7_on_29 : decode cX7_on 29 = .ok (.ireturn, 1) := by decide +kernel
theorem dX7_taken_0 : decode cX7_taken 0 = .ok (.iload_n 1, 1) := by decide +kernel
theorem dX7_taken_1 : decode cX7_taken 1 = .ok (.ifCond .lt 9, 3) := by decide +kernel
theorem dX7_taken_4 : decode cX7_taken 4 = .ok (.iload_n 1, 1) := by decide +kernel
theorem dX7_taken_5 : decode cX7_taken 5 = .ok (.bipush 100, 2) := by decide +kernel
theorem dX7_taken_7 : decode cX7_taken 7 = .ok (.if_icmp .lt 5, 3) := by decide +kernel
theorem dX7_taken_10 : decode cX7_taken 10 = .ok (.iconst (-1), 1) := by decide +kernel
theorem dX7_taken_11 : decode cX7_taken 11 = .ok (.ireturn, 1) := by decide +kernel
theorem dX7_taken_12 : decode cX7_taken 12 = .ok (.aload_n 0, 1) := by decide +kernel
theorem dX7_taken_13 : decode cX7_taken 13 = .ok (.iload_n 1, 1) := by decide +kernel
theorem dX7_taken_14 : decode cX7_taken 14 = .ok (.invokevirtual 215, 3) := by decide +kernel
theorem dX7_taken_17 : decode cX7_taken 17 = .ok (.ireturn, 1) := by decide +kernel
theorem dX7_use_0 : decode cX7_use 0 = .ok (.iload_n 1, 1) := by decide +kernel
theorem dX7_use_1 : decode cX7_use 1 = .ok (.ifCond .ne 24, 3) := by decide +kernel
theorem dX7_use_4 : decode cX7_use 4 = .ok (.aload_n 0, 1) := by decide +kernel
theorem dX7_use_5 : decode cX7_use 5 = .ok (.getfield 19, 3) := by decide +kernel
theorem dX7_use_8 : decode cX7_use 8 = .ok (.iload_n 2, 1) := by decide +kernel
theorem dX7_use_9 : decode cX7_use 9 = .ok (.invokevirtual 115, 3) := by decide +kernel
theorem dX7_use_12 : decode cX7_use 12 = .ok (.ifCond .eq 11, 3) := by decide +kernel
theorem dX7_use_15 : decode cX7_use 15 = .ok (.aload_n 0, 1) := by decide +kernel
theorem dX7_use_16 : decode cX7_use 16 = .ok (.iload_n 2, 1) := by decide +kernel
theorem dX7_use_17 : decode cX7_use 17 = .ok (.invokevirtual 218, 3) := by decide +kernel
theorem dX7_use_20 : decode cX7_use 20 = .ok (.goto 4, 3) := by decide +kernel
theorem dX7_use_23 : decode cX7_use 23 = .ok (.iconst (-1), 1) := by decide +kernel
theorem dX7_use_24 : decode cX7_use 24 = .ok (.ireturn, 1) := by decide +kernel
theorem dX7_use_25 : decode cX7_use 25 = .ok (.iload_n 1, 1) := by decide +kernel
theorem dX7_use_26 : decode cX7_use 26 = .ok (.iconst 1, 1) := by decide +kernel
theorem dX7_use_27 : decode cX7_use 27 = .ok (.if_icmp .ne 23, 3) := by decide +kernel
theorem dX7_use_30 : decode cX7_use 30 = .ok (.iload_n 2, 1) := by decide +kernel
theorem dX7_use_31 : decode cX7_use 31 = .ok (.ifCond .lt 17, 3) := by decide +kernel
theorem dX7_use_34 : decode cX7_use 34 = .ok (.iload_n 2, 1) := by decide +kernel
theorem dX7_use_35 : decode cX7_use 35 = .ok (.bipush 12, 2) := by decide +kernel
theorem dX7_use_37 : decode cX7_use 37 = .ok (.if_icmp .ge 11, 3) := by decide +kernel
theorem dX7_use_40 : decode cX7_use 40 = .ok (.aload_n 0, 1) := by decide +kernel
theorem dX7_use_41 : decode cX7_use 41 = .ok (.iload_n 2, 1) := by decide +kernel
theorem dX7_use_42 : decode cX7_use 42 = .ok (.invokevirtual 221, 3) := by decide +kernel
theorem dX7_use_45 : decode cX7_use 45 = .ok (.goto 4, 3) := by decide +kernel
theorem dX7_use_48 : decode cX7_use 48 = .ok (.iconst (-1), 1) := by decide +kernel
theorem dX7_use_49 : decode cX7_use 49 = .ok (.ireturn, 1) := by decide +kernel
theorem dX7_use_50 : decode cX7_use 50 = .ok (.iconst (-1), 1) := by decide +kernel
theorem dX7_use_51 : decode cX7_use 51 = .ok (.ireturn, 1) := by decide +kernel
theorem dX7_count_0 : decode cX7_count 0 = .ok (.iload_n 1, 1) := by decide +kernel
theorem dX7_count_1 : decode cX7_count 1 = .ok (.tableswitch 112 0 7 #[47, 55, 63, 71, 79, 84, 96, 104], 47) := by decide +kernel
theorem dX7_count_48 : decode cX7_count 48 = .ok (.aload_n 0, 1) := by decide +kernel
theorem dX7_count_49 : decode cX7_count 49 = .ok (.getfield 19, 3) := by decide +kernel
theorem dX7_count_52 : decode cX7_count 52 = .ok (.getfield 100, 3) := by decide +kernel
theorem dX7_count_55 : decode cX7_count 55 = .ok (.ireturn, 1) := by decide +kernel
theorem dX7_count_56 : decode cX7_count 56 = .ok (.aload_n 0, 1) := by decide +kernel
theorem dX7_count_57 : decode cX7_count 57 = .ok (.getfield 19, 3) := by decide +kernel
theorem dX7_count_60 : decode cX7_count 60 = .ok (.getfield 153, 3) := by decide +kernel
theorem dX7_count_63 : decode cX7_count 63 = .ok (.ireturn, 1) := by decide +kernel
theorem dX7_count_64 : decode cX7_count 64 = .ok (.aload_n 0, 1) := by decide +kernel
theorem dX7_count_65 : decode cX7_count 65 = .ok (.getfield 19, 3) := by decide +kernel
theorem dX7_count_68 : decode cX7_count 68 = .ok (.getfield 109, 3) := by decide +kernel
theorem dX7_count_71 : decode cX7_count 71 = .ok (.ireturn, 1) := by decide +kernel
theorem dX7_count_72 : decode cX7_count 72 = .ok (.aload_n 0, 1) := by decide +kernel
theorem dX7_count_73 : decode cX7_count 73 = .ok (.getfield 19, 3) := by decide +kernel
theorem dX7_count_76 : decode cX7_count 76 = .ok (.getfield 224, 3) := by decide +kernel
theorem dX7_count_79 : decode cX7_count 79 = .ok (.ireturn, 1) := by decide +kernel
theorem dX7_count_80 : decode cX7_count 80 = .ok (.aload_n 0, 1) := by decide +kernel
theorem dX7_count_81 : decode cX7_count 81 = .ok (.invokevirtual 167, 3) := by decide +kernel
theorem dX7_count_84 : decode cX7_count 84 = .ok (.ireturn, 1) := by decide +kernel
theorem dX7_count_85 : decode cX7_count 85 = .ok (.aload_n 0, 1) := by decide +kernel
theorem dX7_count_86 : decode cX7_count 86 = .ok (.aload_n 0, 1) := by decide +kernel
theorem dX7_count_87 : decode cX7_count 87 = .ok (.getfield 26, 3) := by decide +kernel
theorem dX7_count_90 : decode cX7_count 90 = .ok (.getfield 144, 3) := by decide +kernel
theorem dX7_count_93 : decode cX7_count 93 = .ok (.invokevirtual 193, 3) := by decide +kernel
theorem dX7_count_96 : decode cX7_count 96 = .ok (.ireturn, 1) := by decide +kernel
theorem dX7_count_97 : decode cX7_count 97 = .ok (.aload_n 0, 1) := by decide +kernel
theorem dX7_count_98 : decode cX7_count 98 = .ok (.getfield 63, 3) := by decide +kernel
theorem dX7_count_101 : decode cX7_count 101 = .ok (.getfield 106, 3) := by decide +kernel
theorem dX7_count_104 : decode cX7_count 104 = .ok (.ireturn, 1) := by decide +kernel
theorem dX7_count_105 : decode cX7_count 105 = .ok (.aload_n 0, 1) := by decide +kernel
theorem dX7_count_106 : decode cX7_count 106 = .ok (.getfield 10, 3) := by decide +kernel
theorem dX7_count_109 : decode cX7_count 109 = .ok (.getfield 93, 3) := by decide +kernel
theorem dX7_count_112 : decode cX7_count 112 = .ok (.ireturn, 1) := by decide +kernel
theorem dX7_count_113 : decode cX7_count 113 = .ok (.iconst (-1), 1) := by decide +kernel
theorem dX7_count_114 : decode cX7_count 114 = .ok (.ireturn, 1) := by decide +kernel
theorem dX7_placedTrains_0 : decode cX7_placedTrains 0 = .ok (.iconst 0, 1) := by decide +kernel
theorem dX7_placedTrains_1 : decode cX7_placedTrains 1 = .ok (.istore_n 1, 1) := by decide +kernel
theorem dX7_placedTrains_2 : decode cX7_placedTrains 2 = .ok (.iconst 0, 1) := by decide +kernel
theorem dX7_placedTrains_3 : decode cX7_placedTrains 3 = .ok (.istore_n 2, 1) := by decide +kernel
theorem dX7_placedTrains_4 : decode cX7_placedTrains 4 = .ok (.iload_n 2, 1) := by decide +kernel
theorem dX7_placedTrains_5 : decode cX7_placedTrains 5 = .ok (.aload_n 0, 1) := by decide +kernel
theorem dX7_placedTrains_6 : decode cX7_placedTrains 6 = .ok (.getfield 19, 3) := by decide +kernel
theorem dX7_placedTrains_9 : decode cX7_placedTrains 9 = .ok (.getfield 109, 3) := by decide +kernel
theorem dX7_placedTrains_12 : decode cX7_placedTrains 12 = .ok (.if_icmp .ge 26, 3) := by decide +kernel
theorem dX7_placedTrains_15 : decode cX7_placedTrains 15 = .ok (.aload_n 0, 1) := by decide +kernel
theorem dX7_placedTrains_16 : decode cX7_placedTrains 16 = .ok (.getfield 26, 3) := by decide +kernel
theorem dX7_placedTrains_19 : decode cX7_placedTrains 19 = .ok (.getfield 144, 3) := by decide +kernel
theorem dX7_placedTrains_22 : decode cX7_placedTrains 22 = .ok (.iload_n 2, 1) := by decide +kernel
theorem dX7_placedTrains_23 : decode cX7_placedTrains 23 = .ok (.iaload, 1) := by decide +kernel
theorem dX7_placedTrains_24 : decode cX7_placedTrains 24 = .ok (.bipush (-4), 2) := by decide +kernel
theorem dX7_placedTrains_26 : decode cX7_placedTrains 26 = .ok (.if_icmp .eq 6, 3) := by decide +kernel
theorem dX7_placedTrains_29 : decode cX7_placedTrains 29 = .ok (.iinc 1 1, 3) := by decide +kernel
theorem dX7_placedTrains_32 : decode cX7_placedTrains 32 = .ok (.iinc 2 1, 3) := by decide +kernel
theorem dX7_placedTrains_35 : decode cX7_placedTrains 35 = .ok (.goto (-31), 3) := by decide +kernel
theorem dX7_placedTrains_38 : decode cX7_placedTrains 38 = .ok (.iload_n 1, 1) := by decide +kernel
theorem dX7_placedTrains_39 : decode cX7_placedTrains 39 = .ok (.ireturn, 1) := by decide +kernel
theorem dX7_wishesMet_0 : decode cX7_wishesMet 0 = .ok (.iconst 0, 1) := by decide +kernel
theorem dX7_wishesMet_1 : decode cX7_wishesMet 1 = .ok (.istore_n 2, 1) := by decide +kernel
theorem dX7_wishesMet_2 : decode cX7_wishesMet 2 = .ok (.iconst 0, 1) := by decide +kernel
theorem dX7_wishesMet_3 : decode cX7_wishesMet 3 = .ok (.istore_n 3, 1) := by decide +kernel
theorem dX7_wishesMet_4 : decode cX7_wishesMet 4 = .ok (.iload_n 3, 1) := by decide +kernel
theorem dX7_wishesMet_5 : decode cX7_wishesMet 5 = .ok (.aload_n 0, 1) := by decide +kernel
theorem dX7_wishesMet_6 : decode cX7_wishesMet 6 = .ok (.getfield 19, 3) := by decide +kernel
theorem dX7_wishesMet_9 : decode cX7_wishesMet 9 = .ok (.getfield 109, 3) := by decide +kernel
theorem dX7_wishesMet_12 : decode cX7_wishesMet 12 = .ok (.if_icmp .ge 27, 3) := by decide +kernel
theorem dX7_wishesMet_15 : decode cX7_wishesMet 15 = .ok (.aload_n 1, 1) := by decide +kernel
theorem dX7_wishesMet_16 : decode cX7_wishesMet 16 = .ok (.iload_n 3, 1) := by decide +kernel
theorem dX7_wishesMet_17 : decode cX7_wishesMet 17 = .ok (.iaload, 1) := by decide +kernel
theorem dX7_wishesMet_18 : decode cX7_wishesMet 18 = .ok (.aload_n 0, 1) := by decide +kernel
theorem dX7_wishesMet_19 : decode cX7_wishesMet 19 = .ok (.getfield 26, 3) := by decide +kernel
theorem dX7_wishesMet_22 : decode cX7_wishesMet 22 = .ok (.getfield 138, 3) := by decide +kernel
theorem dX7_wishesMet_25 : decode cX7_wishesMet 25 = .ok (.iload_n 3, 1) := by decide +kernel
theorem dX7_wishesMet_26 : decode cX7_wishesMet 26 = .ok (.iaload, 1) := by decide +kernel
theorem dX7_wishesMet_27 : decode cX7_wishesMet 27 = .ok (.if_icmp .ne 6, 3) := by decide +kernel
theorem dX7_wishesMet_30 : decode cX7_wishesMet 30 = .ok (.iinc 2 1, 3) := by decide +kernel
theorem dX7_wishesMet_33 : decode cX7_wishesMet 33 = .ok (.iinc 3 1, 3) := by decide +kernel
theorem dX7_wishesMet_36 : decode cX7_wishesMet 36 = .ok (.goto (-32), 3) := by decide +kernel
theorem dX7_wishesMet_39 : decode cX7_wishesMet 39 = .ok (.iload_n 2, 1) := by decide +kernel
theorem dX7_wishesMet_40 : decode cX7_wishesMet 40 = .ok (.ireturn, 1) := by decide +kernel
theorem dX7_movedBy_0 : decode cX7_movedBy 0 = .ok (.iconst 0, 1) := by decide +kernel
theorem dX7_movedBy_1 : decode cX7_movedBy 1 = .ok (.istore_n 2, 1) := by decide +kernel
theorem dX7_movedBy_2 : decode cX7_movedBy 2 = .ok (.iconst 0, 1) := by decide +kernel
theorem dX7_movedBy_3 : decode cX7_movedBy 3 = .ok (.istore_n 3, 1) := by decide +kernel
theorem dX7_movedBy_4 : decode cX7_movedBy 4 = .ok (.iload_n 3, 1) := by decide +kernel
theorem dX7_movedBy_5 : decode cX7_movedBy 5 = .ok (.aload_n 0, 1) := by decide +kernel
theorem dX7_movedBy_6 : decode cX7_movedBy 6 = .ok (.getfield 19, 3) := by decide +kernel
theorem dX7_movedBy_9 : decode cX7_movedBy 9 = .ok (.getfield 109, 3) := by decide +kernel
theorem dX7_movedBy_12 : decode cX7_movedBy 12 = .ok (.if_icmp .ge 27, 3) := by decide +kernel
theorem dX7_movedBy_15 : decode cX7_movedBy 15 = .ok (.aload_n 1, 1) := by decide +kernel
theorem dX7_movedBy_16 : decode cX7_movedBy 16 = .ok (.iload_n 3, 1) := by decide +kernel
theorem dX7_movedBy_17 : decode cX7_movedBy 17 = .ok (.iaload, 1) := by decide +kernel
theorem dX7_movedBy_18 : decode cX7_movedBy 18 = .ok (.aload_n 0, 1) := by decide +kernel
theorem dX7_movedBy_19 : decode cX7_movedBy 19 = .ok (.getfield 26, 3) := by decide +kernel
theorem dX7_movedBy_22 : decode cX7_movedBy 22 = .ok (.getfield 144, 3) := by decide +kernel
theorem dX7_movedBy_25 : decode cX7_movedBy 25 = .ok (.iload_n 3, 1) := by decide +kernel
theorem dX7_movedBy_26 : decode cX7_movedBy 26 = .ok (.iaload, 1) := by decide +kernel
theorem dX7_movedBy_27 : decode cX7_movedBy 27 = .ok (.if_icmp .eq 6, 3) := by decide +kernel
theorem dX7_movedBy_30 : decode cX7_movedBy 30 = .ok (.iinc 2 1, 3) := by decide +kernel
theorem dX7_movedBy_33 : decode cX7_movedBy 33 = .ok (.iinc 3 1, 3) := by decide +kernel
theorem dX7_movedBy_36 : decode cX7_movedBy 36 = .ok (.goto (-32), 3) := by decide +kernel
theorem dX7_movedBy_39 : decode cX7_movedBy 39 = .ok (.iload_n 2, 1) := by decide +kernel
theorem dX7_movedBy_40 : decode cX7_movedBy 40 = .ok (.ireturn, 1) := by decide +kernel
theorem dX7_trainsOn_0 : decode cX7_trainsOn 0 = .ok (.iconst 0, 1) := by decide +kernel
theorem dX7_trainsOn_1 : decode cX7_trainsOn 1 = .ok (.istore_n 3, 1) := by decide +kernel
theorem dX7_trainsOn_2 : decode cX7_trainsOn 2 = .ok (.iconst 0, 1) := by decide +kernel
theorem dX7_trainsOn_3 : decode cX7_trainsOn 3 = .ok (.istore 4, 2) := by decide +kernel
theorem dX7_trainsOn_5 : decode cX7_trainsOn 5 = .ok (.iload 4, 2) := by decide +kernel
theorem dX7_trainsOn_7 : decode cX7_trainsOn 7 = .ok (.aload_n 0, 1) := by decide +kernel
theorem dX7_trainsOn_8 : decode cX7_trainsOn 8 = .ok (.getfield 19, 3) := by decide +kernel
theorem dX7_trainsOn_11 : decode cX7_trainsOn 11 = .ok (.getfield 109, 3) := by decide +kernel
theorem dX7_trainsOn_14 : decode cX7_trainsOn 14 = .ok (.if_icmp .ge 58, 3) := by decide +kernel
theorem dX7_trainsOn_17 : decode cX7_trainsOn 17 = .ok (.aload_n 0, 1) := by decide +kernel
theorem dX7_trainsOn_18 : decode cX7_trainsOn 18 = .ok (.getfield 26, 3) := by decide +kernel
theorem dX7_trainsOn_21 : decode cX7_trainsOn 21 = .ok (.getfield 144, 3) := by decide +kernel
theorem dX7_trainsOn_24 : decode cX7_trainsOn 24 = .ok (.iload 4, 2) := by decide +kernel
theorem dX7_trainsOn_26 : decode cX7_trainsOn 26 = .ok (.iaload, 1) := by decide +kernel
theorem dX7_trainsOn_27 : decode cX7_trainsOn 27 = .ok (.iload_n 1, 1) := by decide +kernel
theorem dX7_trainsOn_28 : decode cX7_trainsOn 28 = .ok (.if_icmp .ne 38, 3) := by decide +kernel
theorem dX7_trainsOn_31 : decode cX7_trainsOn 31 = .ok (.aload_n 0, 1) := by decide +kernel
theorem dX7_trainsOn_32 : decode cX7_trainsOn 32 = .ok (.getfield 26, 3) := by decide +kernel
theorem dX7_trainsOn_35 : decode cX7_trainsOn 35 = .ok (.getfield 132, 3) := by decide +kernel
theorem dX7_trainsOn_38 : decode cX7_trainsOn 38 = .ok (.iload 4, 2) := by decide +kernel
theorem dX7_trainsOn_40 : decode cX7_trainsOn 40 = .ok (.iaload, 1) := by decide +kernel
theorem dX7_trainsOn_41 : decode cX7_trainsOn 41 = .ok (.iload_n 2, 1) := by decide +kernel
theorem dX7_trainsOn_42 : decode cX7_trainsOn 42 = .ok (.if_icmp .gt 24, 3) := by decide +kernel
theorem dX7_trainsOn_45 : decode cX7_trainsOn 45 = .ok (.iload_n 2, 1) := by decide +kernel
theorem dX7_trainsOn_46 : decode cX7_trainsOn 46 = .ok (.aload_n 0, 1) := by decide +kernel
theorem dX7_trainsOn_47 : decode cX7_trainsOn 47 = .ok (.getfield 26, 3) := by decide +kernel
theorem dX7_trainsOn_50 : decode cX7_trainsOn 50 = .ok (.getfield 135, 3) := by decide +kernel
theorem dX7_trainsOn_53 : decode cX7_trainsOn 53 = .ok (.iload 4, 2) := by decide +kernel
theorem dX7_trainsOn_55 : decode cX7_trainsOn 55 = .ok (.iaload, 1) := by decide +kernel
theorem dX7_trainsOn_56 : decode cX7_trainsOn 56 = .ok (.if_icmp .gt 10, 3) := by decide +kernel
theorem dX7_trainsOn_59 : decode cX7_trainsOn 59 = .ok (.iload_n 3, 1) := by decide +kernel
theorem dX7_trainsOn_60 : decode cX7_trainsOn 60 = .ok (.iconst 1, 1) := by decide +kernel
theorem dX7_trainsOn_61 : decode cX7_trainsOn 61 = .ok (.iload 4, 2) := by decide +kernel
theorem dX7_trainsOn_63 : decode cX7_trainsOn 63 = .ok (.ishl, 1) := by decide +kernel
theorem dX7_trainsOn_64 : decode cX7_trainsOn 64 = .ok (.ior, 1) := by decide +kernel
theorem dX7_trainsOn_65 : decode cX7_trainsOn 65 = .ok (.istore_n 3, 1) := by decide +kernel
theorem dX7_trainsOn_66 : decode cX7_trainsOn 66 = .ok (.iinc 4 1, 3) := by decide +kernel
theorem dX7_trainsOn_69 : decode cX7_trainsOn 69 = .ok (.goto (-64), 3) := by decide +kernel
theorem dX7_trainsOn_72 : decode cX7_trainsOn 72 = .ok (.iload_n 3, 1) := by decide +kernel
theorem dX7_trainsOn_73 : decode cX7_trainsOn 73 = .ok (.ireturn, 1) := by decide +kernel
theorem dX7_switchesIn_0 : decode cX7_switchesIn 0 = .ok (.iconst 0, 1) := by decide +kernel
theorem dX7_switchesIn_1 : decode cX7_switchesIn 1 = .ok (.istore_n 2, 1) := by decide +kernel
theorem dX7_switchesIn_2 : decode cX7_switchesIn 2 = .ok (.iconst 0, 1) := by decide +kernel
theorem dX7_switchesIn_3 : decode cX7_switchesIn 3 = .ok (.istore_n 3, 1) := by decide +kernel
theorem dX7_switchesIn_4 : decode cX7_switchesIn 4 = .ok (.iload_n 3, 1) := by decide +kernel
theorem dX7_switchesIn_5 : decode cX7_switchesIn 5 = .ok (.aload_n 0, 1) := by decide +kernel
theorem dX7_switchesIn_6 : decode cX7_switchesIn 6 = .ok (.getfield 19, 3) := by decide +kernel
theorem dX7_switchesIn_9 : decode cX7_switchesIn 9 = .ok (.getfield 109, 3) := by decide +kernel
theorem dX7_switchesIn_12 : decode cX7_switchesIn 12 = .ok (.if_icmp .ge 84, 3) := by decide +kernel
theorem dX7_switchesIn_15 : decode cX7_switchesIn 15 = .ok (.aload_n 0, 1) := by decide +kernel
theorem dX7_switchesIn_16 : decode cX7_switchesIn 16 = .ok (.getfield 26, 3) := by decide +kernel
theorem dX7_switchesIn_19 : decode cX7_switchesIn 19 = .ok (.getfield 144, 3) := by decide +kernel
theorem dX7_switchesIn_22 : decode cX7_switchesIn 22 = .ok (.iload_n 3, 1) := by decide +kernel
theorem dX7_switchesIn_23 : decode cX7_switchesIn 23 = .ok (.iaload, 1) := by decide +kernel
theorem dX7_switchesIn_24 : decode cX7_switchesIn 24 = .ok (.istore 4, 2) := by decide +kernel
theorem dX7_switchesIn_26 : decode cX7_switchesIn 26 = .ok (.iload 4, 2) := by decide +kernel
theorem dX7_switchesIn_28 : decode cX7_switchesIn 28 = .ok (.bipush (-4), 2) := by decide +kernel
theorem dX7_switchesIn_30 : decode cX7_switchesIn 30 = .ok (.if_icmp .eq 28, 3) := by decide +kernel
theorem dX7_switchesIn_33 : decode cX7_switchesIn 33 = .ok (.aload_n 0, 1) := by decide +kernel
theorem dX7_switchesIn_34 : decode cX7_switchesIn 34 = .ok (.getfield 26, 3) := by decide +kernel
theorem dX7_switchesIn_37 : decode cX7_switchesIn 37 = .ok (.iload_n 3, 1) := by decide +kernel
theorem dX7_switchesIn_38 : decode cX7_switchesIn 38 = .ok (.iload_n 1, 1) := by decide +kernel
theorem dX7_switchesIn_39 : decode cX7_switchesIn 39 = .ok (.invokevirtual 227, 3) := by decide +kernel
theorem dX7_switchesIn_42 : decode cX7_switchesIn 42 = .ok (.ifCond .eq 16, 3) := by decide +kernel
theorem dX7_switchesIn_45 : decode cX7_switchesIn 45 = .ok (.iload_n 2, 1) := by decide +kernel
theorem dX7_switchesIn_46 : decode cX7_switchesIn 46 = .ok (.aload_n 0, 1) := by decide +kernel
theorem dX7_switchesIn_47 : decode cX7_switchesIn 47 = .ok (.getfield 19, 3) := by decide +kernel
theorem dX7_switchesIn_50 : decode cX7_switchesIn 50 = .ok (.iload_n 3, 1) := by decide +kernel
theorem dX7_switchesIn_51 : decode cX7_switchesIn 51 = .ok (.iload 4, 2) := by decide +kernel
theorem dX7_switchesIn_53 : decode cX7_switchesIn 53 = .ok (.invokevirtual 170, 3) := by decide +kernel
theorem dX7_switchesIn_56 : decode cX7_switchesIn 56 = .ok (.ior, 1) := by decide +kernel
theorem dX7_switchesIn_57 : decode cX7_switchesIn 57 = .ok (.istore_n 2, 1) := by decide +kernel
theorem dX7_switchesIn_58 : decode cX7_switchesIn 58 = .ok (.iload 4, 2) := by decide +kernel
theorem dX7_switchesIn_60 : decode cX7_switchesIn 60 = .ok (.bipush (-4), 2) := by decide +kernel
theorem dX7_switchesIn_62 : decode cX7_switchesIn 62 = .ok (.if_icmp .eq 28, 3) := by decide +kernel
theorem dX7_switchesIn_65 : decode cX7_switchesIn 65 = .ok (.aload_n 0, 1) := by decide +kernel
theorem dX7_switchesIn_66 : decode cX7_switchesIn 66 = .ok (.getfield 26, 3) := by decide +kernel
theorem dX7_switchesIn_69 : decode cX7_switchesIn 69 = .ok (.iload_n 3, 1) := by decide +kernel
theorem dX7_switchesIn_70 : decode cX7_switchesIn 70 = .ok (.iload_n 1, 1) := by decide +kernel
theorem dX7_switchesIn_71 : decode cX7_switchesIn 71 = .ok (.invokevirtual 230, 3) := by decide +kernel
theorem dX7_switchesIn_74 : decode cX7_switchesIn 74 = .ok (.ifCond .eq 16, 3) := by decide +kernel
theorem dX7_switchesIn_77 : decode cX7_switchesIn 77 = .ok (.iload_n 2, 1) := by decide +kernel
theorem dX7_switchesIn_78 : decode cX7_switchesIn 78 = .ok (.aload_n 0, 1) := by decide +kernel
theorem dX7_switchesIn_79 : decode cX7_switchesIn 79 = .ok (.getfield 19, 3) := by decide +kernel
theorem dX7_switchesIn_82 : decode cX7_switchesIn 82 = .ok (.iload_n 3, 1) := by decide +kernel
theorem dX7_switchesIn_83 : decode cX7_switchesIn 83 = .ok (.iload 4, 2) := by decide +kernel
theorem dX7_switchesIn_85 : decode cX7_switchesIn 85 = .ok (.invokevirtual 173, 3) := by decide +kernel
theorem dX7_switchesIn_88 : decode cX7_switchesIn 88 = .ok (.ior, 1) := by decide +kernel
theorem dX7_switchesIn_89 : decode cX7_switchesIn 89 = .ok (.istore_n 2, 1) := by decide +kernel
theorem dX7_switchesIn_90 : decode cX7_switchesIn 90 = .ok (.iinc 3 1, 3) := by decide +kernel
theorem dX7_switchesIn_93 : decode cX7_switchesIn 93 = .ok (.goto (-89), 3) := by decide +kernel
theorem dX7_switchesIn_96 : decode cX7_switchesIn 96 = .ok (.iload_n 2, 1) := by decide +kernel
theorem dX7_switchesIn_97 : decode cX7_switchesIn 97 = .ok (.ireturn, 1) := by decide +kernel
theorem dX7_minutesOfTrack_0 : decode cX7_minutesOfTrack 0 = .ok (.iconst 0, 1) := by decide +kernel
theorem dX7_minutesOfTrack_1 : decode cX7_minutesOfTrack 1 = .ok (.istore_n 2, 1) := by decide +kernel
theorem dX7_minutesOfTrack_2 : decode cX7_minutesOfTrack 2 = .ok (.iconst 0, 1) := by decide +kernel
theorem dX7_minutesOfTrack_3 : decode cX7_minutesOfTrack 3 = .ok (.istore_n 3, 1) := by decide +kernel
theorem dX7_minutesOfTrack_4 : decode cX7_minutesOfTrack 4 = .ok (.iload_n 3, 1) := by decide +kernel
theorem dX7_minutesOfTrack_5 : decode cX7_minutesOfTrack 5 = .ok (.bipush 100, 2) := by decide +kernel
theorem dX7_minutesOfTrack_7 : decode cX7_minutesOfTrack 7 = .ok (.if_icmp .ge 21, 3) := by decide +kernel
theorem dX7_minutesOfTrack_10 : decode cX7_minutesOfTrack 10 = .ok (.aload_n 0, 1) := by decide +kernel
theorem dX7_minutesOfTrack_11 : decode cX7_minutesOfTrack 11 = .ok (.iload_n 1, 1) := by decide +kernel
theorem dX7_minutesOfTrack_12 : decode cX7_minutesOfTrack 12 = .ok (.iload_n 3, 1) := by decide +kernel
theorem dX7_minutesOfTrack_13 : decode cX7_minutesOfTrack 13 = .ok (.invokevirtual 212, 3) := by decide +kernel
theorem dX7_minutesOfTrack_16 : decode cX7_minutesOfTrack 16 = .ok (.ifCond .eq 6, 3) := by decide +kernel
theorem dX7_minutesOfTrack_19 : decode cX7_minutesOfTrack 19 = .ok (.iinc 2 1, 3) := by decide +kernel
theorem dX7_minutesOfTrack_22 : decode cX7_minutesOfTrack 22 = .ok (.iinc 3 1, 3) := by decide +kernel
theorem dX7_minutesOfTrack_25 : decode cX7_minutesOfTrack 25 = .ok (.goto (-21), 3) := by decide +kernel
theorem dX7_minutesOfTrack_28 : decode cX7_minutesOfTrack 28 = .ok (.iload_n 2, 1) := by decide +kernel
theorem dX7_minutesOfTrack_29 : decode cX7_minutesOfTrack 29 = .ok (.ireturn, 1) := by decide +kernel
theorem dX7_minutesOfSwitch_0 : decode cX7_minutesOfSwitch 0 = .ok (.iconst 0, 1) := by decide +kernel
theorem dX7_minutesOfSwitch_1 : decode cX7_minutesOfSwitch 1 = .ok (.istore_n 2, 1) := by decide +kernel
theorem dX7_minutesOfSwitch_2 : decode cX7_minutesOfSwitch 2 = .ok (.iconst 0, 1) := by decide +kernel
theorem dX7_minutesOfSwitch_3 : decode cX7_minutesOfSwitch 3 = .ok (.istore_n 3, 1) := by decide +kernel
theorem dX7_minutesOfSwitch_4 : decode cX7_minutesOfSwitch 4 = .ok (.iload_n 3, 1) := by decide +kernel
theorem dX7_minutesOfSwitch_5 : decode cX7_minutesOfSwitch 5 = .ok (.bipush 100, 2) := by decide +kernel
theorem dX7_minutesOfSwitch_7 : decode cX7_minutesOfSwitch 7 = .ok (.if_icmp .ge 24, 3) := by decide +kernel
theorem dX7_minutesOfSwitch_10 : decode cX7_minutesOfSwitch 10 = .ok (.aload_n 0, 1) := by decide +kernel
theorem dX7_minutesOfSwitch_11 : decode cX7_minutesOfSwitch 11 = .ok (.iload_n 3, 1) := by decide +kernel
theorem dX7_minutesOfSwitch_12 : decode cX7_minutesOfSwitch 12 = .ok (.invokevirtual 215, 3) := by decide +kernel
theorem dX7_minutesOfSwitch_15 : decode cX7_minutesOfSwitch 15 = .ok (.iload_n 1, 1) := by decide +kernel
theorem dX7_minutesOfSwitch_16 : decode cX7_minutesOfSwitch 16 = .ok (.ishr, 1) := by decide +kernel
theorem dX7_minutesOfSwitch_17 : decode cX7_minutesOfSwitch 17 = .ok (.iconst 1, 1) := by decide +kernel
theorem dX7_minutesOfSwitch_18 : decode cX7_minutesOfSwitch 18 = .ok (.iand, 1) := by decide +kernel
theorem dX7_minutesOfSwitch_19 : decode cX7_minutesOfSwitch 19 = .ok (.ifCond .eq 6, 3) := by decide +kernel
theorem dX7_minutesOfSwitch_22 : decode cX7_minutesOfSwitch 22 = .ok (.iinc 2 1, 3) := by decide +kernel
theorem dX7_minutesOfSwitch_25 : decode cX7_minutesOfSwitch 25 = .ok (.iinc 3 1, 3) := by decide +kernel
theorem dX7_minutesOfSwitch_28 : decode cX7_minutesOfSwitch 28 = .ok (.goto (-24), 3) := by decide +kernel
theorem dX7_minutesOfSwitch_31 : decode cX7_minutesOfSwitch 31 = .ok (.iload_n 2, 1) := by decide +kernel
theorem dX7_minutesOfSwitch_32 : decode cX7_minutesOfSwitch 32 = .ok (.ireturn, 1) := by decide +kernel
theorem dX8_init_0 : decode cX8_init 0 = .ok (.aload_n 0, 1) := by decide +kernel
theorem dX8_init_1 : decode cX8_init 1 = .ok (.invokespecial 1, 3) := by decide +kernel
theorem dX8_init_4 : decode cX8_init 4 = .ok (.aload_n 0, 1) := by decide +kernel
theorem dX8_init_5 : decode cX8_init 5 = .ok (.bipush 65, 2) := by decide +kernel
theorem dX8_init_7 : decode cX8_init 7 = .ok (.newarray .int, 2) := by decide +kernel
theorem dX8_init_9 : decode cX8_init 9 = .ok (.putfield 7, 3) := by decide +kernel
theorem dX8_init_12 : decode cX8_init 12 = .ok (.aload_n 0, 1) := by decide +kernel
theorem dX8_init_13 : decode cX8_init 13 = .ok (.bipush 65, 2) := by decide +kernel
theorem dX8_init_15 : decode cX8_init 15 = .ok (.newarray .int, 2) := by decide +kernel
theorem dX8_init_17 : decode cX8_init 17 = .ok (.putfield 13, 3) := by decide +kernel
theorem dX8_init_20 : decode cX8_init 20 = .ok (.aload_n 0, 1) := by decide +kernel
theorem dX8_init_21 : decode cX8_init 21 = .ok (.sipush 390, 3) := by decide +kernel
theorem dX8_init_24 : decode cX8_init 24 = .ok (.newarray .int, 2) := by decide +kernel
theorem dX8_init_26 : decode cX8_init 26 = .ok (.putfield 16, 3) := by decide +kernel
theorem dX8_init_29 : decode cX8_init 29 = .ok (.aload_n 0, 1) := by decide +kernel
theorem dX8_init_30 : decode cX8_init 30 = .ok (.sipush 200, 3) := by decide +kernel
theorem dX8_init_33 : decode cX8_init 33 = .ok (.newarray .int, 2) := by decide +kernel
theorem dX8_init_35 : decode cX8_init 35 = .ok (.putfield 19, 3) := by decide +kernel
theorem dX8_init_38 : decode cX8_init 38 = .ok (.aload_n 0, 1) := by decide +kernel
theorem dX8_init_39 : decode cX8_init 39 = .ok (.bipush 6, 2) := by decide +kernel
theorem dX8_init_41 : decode cX8_init 41 = .ok (.newarray .int, 2) := by decide +kernel
theorem dX8_init_43 : decode cX8_init 43 = .ok (.putfield 22, 3) := by decide +kernel
theorem dX8_init_46 : decode cX8_init 46 = .ok (.aload_n 0, 1) := by decide +kernel
theorem dX8_init_47 : decode cX8_init 47 = .ok (.bipush 28, 2) := by decide +kernel
theorem dX8_init_49 : decode cX8_init 49 = .ok (.newarray .boolean, 2) := by decide +kernel
theorem dX8_init_51 : decode cX8_init 51 = .ok (.putfield 25, 3) := by decide +kernel
theorem dX8_init_54 : decode cX8_init 54 = .ok (.aload_n 0, 1) := by decide +kernel
theorem dX8_init_55 : decode cX8_init 55 = .ok (.sipush 784, 3) := by decide +kernel
theorem dX8_init_58 : decode cX8_init 58 = .ok (.newarray .boolean, 2) := by decide +kernel
theorem dX8_init_60 : decode cX8_init 60 = .ok (.putfield 29, 3) := by decide +kernel
theorem dX8_init_63 : decode cX8_init 63 = .ok (.aload_n 0, 1) := by decide +kernel
theorem dX8_init_64 : decode cX8_init 64 = .ok (.bipush 7, 2) := by decide +kernel
theorem dX8_init_66 : decode cX8_init 66 = .ok (.newarray .int, 2) := by decide +kernel
theorem dX8_init_68 : decode cX8_init 68 = .ok (.putfield 32, 3) := by decide +kernel
theorem dX8_init_71 : decode cX8_init 71 = .ok (.aload_n 0, 1) := by decide +kernel
theorem dX8_init_72 : decode cX8_init 72 = .ok (.bipush 7, 2) := by decide +kernel
theorem dX8_init_74 : decode cX8_init 74 = .ok (.newarray .int, 2) := by decide +kernel
theorem dX8_init_76 : decode cX8_init 76 = .ok (.putfield 35, 3) := by decide +kernel
theorem dX8_init_79 : decode cX8_init 79 = .ok (.aload_n 0, 1) := by decide +kernel
theorem dX8_init_80 : decode cX8_init 80 = .ok (.invokevirtual 38, 3) := by decide +kernel
theorem dX8_init_83 : decode cX8_init 83 = .ok (.aload_n 0, 1) := by decide +kernel
theorem dX8_init_84 : decode cX8_init 84 = .ok (.getfield 13, 3) := by decide +kernel
theorem dX8_init_87 : decode cX8_init 87 = .ok (.iconst 0, 1) := by decide +kernel
theorem dX8_init_88 : decode cX8_init 88 = .ok (.iconst 2, 1) := by decide +kernel
theorem dX8_init_89 : decode cX8_init 89 = .ok (.iastore, 1) := by decide +kernel
theorem dX8_init_90 : decode cX8_init 90 = .ok (.aload_n 0, 1) := by decide +kernel
theorem dX8_init_91 : decode cX8_init 91 = .ok (.getfield 13, 3) := by decide +kernel
theorem dX8_init_94 : decode cX8_init 94 = .ok (.iconst 1, 1) := by decide +kernel
theorem dX8_init_95 : decode cX8_init 95 = .ok (.iconst 3, 1) := by decide +kernel
theorem dX8_init_96 : decode cX8_init 96 = .ok (.iastore, 1) := by decide +kernel
theorem dX8_init_97 : decode cX8_init 97 = .ok (.aload_n 0, 1) := by decide +kernel
theorem dX8_init_98 : decode cX8_init 98 = .ok (.getfield 13, 3) := by decide +kernel
theorem dX8_init_101 : decode cX8_init 101 = .ok (.iconst 3, 1) := by decide +kernel
theorem dX8_init_102 : decode cX8_init 102 = .ok (.iconst 1, 1) := by decide +kernel
theorem dX8_init_103 : decode cX8_init 103 = .ok (.iastore, 1) := by decide +kernel
theorem dX8_init_104 : decode cX8_init 104 = .ok (.aload_n 0, 1) := by decide +kernel
theorem dX8_init_105 : decode cX8_init 105 = .ok (.getfield 13, 3) := by decide +kernel
theorem dX8_init_108 : decode cX8_init 108 = .ok (.iconst 4, 1) := by decide +kernel
theorem dX8_init_109 : decode cX8_init 109 = .ok (.iconst 2, 1) := by decide +kernel
theorem dX8_init_110 : decode cX8_init 110 = .ok (.iastore, 1) := by decide +kernel
theorem dX8_init_111 : decode cX8_init 111 = .ok (.aload_n 0, 1) := by decide +kernel
theorem dX8_init_112 : decode cX8_init 112 = .ok (.getfield 13, 3) := by decide +kernel
theorem dX8_init_115 : decode cX8_init 115 = .ok (.iconst 5, 1) := by decide +kernel
theorem dX8_init_116 : decode cX8_init 116 = .ok (.bipush 6, 2) := by decide +kernel
theorem dX8_init_118 : decode cX8_init 118 = .ok (.iastore, 1) := by decide +kernel
theorem dX8_init_119 : decode cX8_init 119 = .ok (.aload_n 0, 1) := by decide +kernel
theorem dX8_init_120 : decode cX8_init 120 = .ok (.getfield 13, 3) := by decide +kernel
theorem dX8_init_123 : decode cX8_init 123 = .ok (.bipush 6, 2) := by decide +kernel
theorem dX8_init_125 : decode cX8_init 125 = .ok (.bipush 14, 2) := by decide +kernel
theorem dX8_init_127 : decode cX8_init 127 = .ok (.iastore, 1) := by decide +kernel
theorem dX8_init_128 : decode cX8_init 128 = .ok (.aload_n 0, 1) := by decide +kernel
theorem dX8_init_129 : decode cX8_init 129 = .ok (.getfield 13, 3) := by decide +kernel
theorem dX8_init_132 : decode cX8_init 132 = .ok (.bipush 8, 2) := by decide +kernel
theorem dX8_init_134 : decode cX8_init 134 = .ok (.bipush 48, 2) := by decide +kernel
theorem dX8_init_136 : decode cX8_init 136 = .ok (.iastore, 1) := by decide +kernel
theorem dX8_init_137 : decode cX8_init 137 = .ok (.aload_n 0, 1) := by decide +kernel
theorem dX8_init_138 : decode cX8_init 138 = .ok (.getfield 13, 3) := by decide +kernel
theorem dX8_init_141 : decode cX8_init 141 = .ok (.bipush 9, 2) := by decide +kernel
theorem dX8_init_143 : decode cX8_init 143 = .ok (.bipush 16, 2) := by decide +kernel
theorem dX8_init_145 : decode cX8_init 145 = .ok (.iastore, 1) := by decide +kernel
theorem dX8_init_146 : decode cX8_init 146 = .ok (.aload_n 0, 1) := by decide +kernel
theorem dX8_init_147 : decode cX8_init 147 = .ok (.getfield 13, 3) := by decide +kernel
theorem dX8_init_150 : decode cX8_init 150 = .ok (.bipush 10, 2) := by decide +kernel
theorem dX8_init_152 : decode cX8_init 152 = .ok (.bipush 8, 2) := by decide +kernel
theorem dX8_init_154 : decode cX8_init 154 = .ok (.iastore, 1) := by decide +kernel
theorem dX8_init_155 : decode cX8_init 155 = .ok (.aload_n 0, 1) := by decide +kernel
theorem dX8_init_156 : decode cX8_init 156 = .ok (.iconst 0, 1) := by decide +kernel
theorem dX8_init_157 : decode cX8_init 157 = .ok (.iconst 1, 1) := by decide +kernel
theorem dX8_init_158 : decode cX8_init 158 = .ok (.bipush 10, 2) := by decide +kernel
theorem dX8_init_160 : decode cX8_init 160 = .ok (.bipush 20, 2) := by decide +kernel
theorem dX8_init_162 : decode cX8_init 162 = .ok (.iconst 1, 1) := by decide +kernel
theorem dX8_init_163 : decode cX8_init 163 = .ok (.invokevirtual 41, 3) := by decide +kernel
theorem dX8_init_166 : decode cX8_init 166 = .ok (.aload_n 0, 1) := by decide +kernel
theorem dX8_init_167 : decode cX8_init 167 = .ok (.iconst 1, 1) := by decide +kernel
theorem dX8_init_168 : decode cX8_init 168 = .ok (.iconst 0, 1) := by decide +kernel
theorem dX8_init_169 : decode cX8_init 169 = .ok (.bipush 12, 2) := by decide +kernel
theorem dX8_init_171 : decode cX8_init 171 = .ok (.bipush 18, 2) := by decide +kernel
theorem dX8_init_173 : decode cX8_init 173 = .ok (.bipush (-4), 2) := by decide +kernel
theorem dX8_init_175 : decode cX8_init 175 = .ok (.invokevirtual 41, 3) := by decide +kernel
theorem dX8_init_178 : decode cX8_init 178 = .ok (.aload_n 0, 1) := by decide +kernel
theorem dX8_init_179 : decode cX8_init 179 = .ok (.iconst 0, 1) := by decide +kernel
theorem dX8_init_180 : decode cX8_init 180 = .ok (.iconst 0, 1) := by decide +kernel
theorem dX8_init_181 : decode cX8_init 181 = .ok (.bipush 15, 2) := by decide +kernel
theorem dX8_init_183 : decode cX8_init 183 = .ok (.bipush 25, 2) := by decide +kernel
theorem dX8_init_185 : decode cX8_init 185 = .ok (.iconst 1, 1) := by decide +kernel
theorem dX8_init_186 : decode cX8_init 186 = .ok (.invokevirtual 41, 3) := by decide +kernel
theorem dX8_init_189 : decode cX8_init 189 = .ok (.aload_n 0, 1) := by decide +kernel
theorem dX8_init_190 : decode cX8_init 190 = .ok (.iconst 1, 1) := by decide +kernel
theorem dX8_init_191 : decode cX8_init 191 = .ok (.iconst 1, 1) := by decide +kernel
theorem dX8_init_192 : decode cX8_init 192 = .ok (.bipush 22, 2) := by decide +kernel
theorem dX8_init_194 : decode cX8_init 194 = .ok (.bipush 30, 2) := by decide +kernel
theorem dX8_init_196 : decode cX8_init 196 = .ok (.iconst 0, 1) := by decide +kernel
theorem dX8_init_197 : decode cX8_init 197 = .ok (.invokevirtual 41, 3) := by decide +kernel
theorem dX8_init_200 : decode cX8_init 200 = .ok (.aload_n 0, 1) := by decide +kernel
theorem dX8_init_201 : decode cX8_init 201 = .ok (.invokevirtual 45, 3) := by decide +kernel
theorem dX8_init_204 : decode cX8_init 204 = .ok (.return_, 1) := by decide +kernel
theorem dX8_in_0 : decode cX8_in 0 = .ok (.iload_n 0, 1) := by decide +kernel
theorem dX8_in_1 : decode cX8_in 1 = .ok (.iload_n 1, 1) := by decide +kernel
theorem dX8_in_2 : decode cX8_in 2 = .ok (.if_icmp .lt 12, 3) := by decide +kernel
theorem dX8_in_5 : decode cX8_in 5 = .ok (.iload_n 0, 1) := by decide +kernel
theorem dX8_in_6 : decode cX8_in 6 = .ok (.iload_n 2, 1) := by decide +kernel
theorem dX8_in_7 : decode cX8_in 7 = .ok (.if_icmp .gt 7, 3) := by decide +kernel
theorem dX8_in_10 : decode cX8_in 10 = .ok (.iconst 1, 1) := by decide +kernel
theorem dX8_in_11 : decode cX8_in 11 = .ok (.goto 4, 3) := by decide +kernel
theorem dX8_in_14 : decode cX8_in 14 = .ok (.iconst 0, 1) := by decide +kernel
theorem dX8_in_15 : decode cX8_in 15 = .ok (.ireturn, 1) := by decide +kernel
theorem dX8_begins_0 : decode cX8_begins 0 = .ok (.iconst 0, 1) := by decide +kernel
theorem dX8_begins_1 : decode cX8_begins 1 = .ok (.istore_n 1, 1) := by decide +kernel
theorem dX8_begins_2 : decode cX8_begins 2 = .ok (.iload_n 1, 1) := by decide +kernel
theorem dX8_begins_3 : decode cX8_begins 3 = .ok (.bipush 65, 2) := by decide +kernel
theorem dX8_begins_5 : decode cX8_begins 5 = .ok (.if_icmp .ge 32, 3) := by decide +kernel
theorem dX8_begins_8 : decode cX8_begins 8 = .ok (.aload_n 0, 1) := by decide +kernel
theorem dX8_begins_9 : decode cX8_begins 9 = .ok (.getfield 13, 3) := by decide +kernel
theorem dX8_begins_12 : decode cX8_begins 12 = .ok (.iload_n 1, 1) := by decide +kernel
theorem dX8_begins_13 : decode cX8_begins 13 = .ok (.iload_n 1, 1) := by decide +kernel
theorem dX8_begins_14 : decode cX8_begins 14 = .ok (.iconst 4, 1) := by decide +kernel
theorem dX8_begins_15 : decode cX8_begins 15 = .ok (.if_icmp .lt 14, 3) := by decide +kernel
theorem dX8_begins_18 : decode cX8_begins 18 = .ok (.iload_n 1, 1) := by decide +kernel
theorem dX8_begins_19 : decode cX8_begins 19 = .ok (.bipush 16, 2) := by decide +kernel
theorem dX8_begins_21 : decode cX8_begins 21 = .ok (.if_icmp .ge 8, 3) := by decide +kernel
theorem dX8_begins_24 : decode cX8_begins 24 = .ok (.bipush (-4), 2) := by decide +kernel
theorem dX8_begins_26 : decode cX8_begins 26 = .ok (.goto 4, 3) := by decide +kernel
theorem dX8_begins_29 : decode cX8_begins 29 = .ok (.iconst 0, 1) := by decide +kernel
theorem dX8_begins_30 : decode cX8_begins 30 = .ok (.iastore, 1) := by decide +kernel
theorem dX8_begins_31 : decode cX8_begins 31 = .ok (.iinc 1 1, 3) := by decide +kernel
theorem dX8_begins_34 : decode cX8_begins 34 = .ok (.goto (-32), 3) := by decide +kernel
theorem dX8_begins_37 : decode cX8_begins 37 = .ok (.aload_n 0, 1) := by decide +kernel
theorem dX8_begins_38 : decode cX8_begins 38 = .ok (.getfield 13, 3) := by decide +kernel
theorem dX8_begins_41 : decode cX8_begins 41 = .ok (.iconst 3, 1) := by decide +kernel
theorem dX8_begins_42 : decode cX8_begins 42 = .ok (.iconst 1, 1) := by decide +kernel
theorem dX8_begins_43 : decode cX8_begins 43 = .ok (.iastore, 1) := by decide +kernel
theorem dX8_begins_44 : decode cX8_begins 44 = .ok (.return_, 1) := by decide +kernel
theorem dX8_comes_0 : decode cX8_comes 0 = .ok (.bipush 16, 2) := by decide +kernel
theorem dX8_comes_2 : decode cX8_comes 2 = .ok (.bipush 7, 2) := by decide +kernel
theorem dX8_comes_4 : decode cX8_comes 4 = .ok (.aload_n 0, 1) := by decide +kernel
theorem dX8_comes_5 : decode cX8_comes 5 = .ok (.getfield 13, 3) := by decide +kernel
theorem dX8_comes_8 : decode cX8_comes 8 = .ok (.iconst 2, 1) := by decide +kernel
theorem dX8_comes_9 : decode cX8_comes 9 = .ok (.iaload, 1) := by decide +kernel
theorem dX8_comes_10 : decode cX8_comes 10 = .ok (.imul, 1) := by decide +kernel
theorem dX8_comes_11 : decode cX8_comes 11 = .ok (.iadd, 1) := by decide +kernel
theorem dX8_comes_12 : decode cX8_comes 12 = .ok (.istore 6, 2) := by decide +kernel
theorem dX8_comes_14 : decode cX8_comes 14 = .ok (.aload_n 0, 1) := by decide +kernel
theorem dX8_comes_15 : decode cX8_comes 15 = .ok (.getfield 13, 3) := by decide +kernel
theorem dX8_comes_18 : decode cX8_comes 18 = .ok (.iload 6, 2) := by decide +kernel
theorem dX8_comes_20 : decode cX8_comes 20 = .ok (.iconst 0, 1) := by decide +kernel
theorem dX8_comes_21 : decode cX8_comes 21 = .ok (.iadd, 1) := by decide +kernel
theorem dX8_comes_22 : decode cX8_comes 22 = .ok (.iload_n 1, 1) := by decide +kernel
theorem dX8_comes_23 : decode cX8_comes 23 = .ok (.iastore, 1) := by decide +kernel
theorem dX8_comes_24 : decode cX8_comes 24 = .ok (.aload_n 0, 1) := by decide +kernel
theorem dX8_comes_25 : decode cX8_comes 25 = .ok (.getfield 13, 3) := by decide +kernel
theorem dX8_comes_28 : decode cX8_comes 28 = .ok (.iload 6, 2) := by decide +kernel
theorem dX8_comes_30 : decode cX8_comes 30 = .ok (.iconst 1, 1) := by decide +kernel
theorem dX8_comes_31 : decode cX8_comes 31 = .ok (.iadd, 1) := by decide +kernel
theorem dX8_comes_32 : decode cX8_comes 32 = .ok (.iload_n 2, 1) := by decide +kernel
theorem dX8_comes_33 : decode cX8_comes 33 = .ok (.iastore, 1) := by decide +kernel
theorem dX8_comes_34 : decode cX8_comes 34 = .ok (.aload_n 0, 1) := by decide +kernel
theorem dX8_comes_35 : decode cX8_comes 35 = .ok (.getfield 13, 3) := by decide +kernel
theorem dX8_comes_38 : decode cX8_comes 38 = .ok (.iload 6, 2) := by decide +kernel
theorem dX8_comes_40 : decode cX8_comes 40 = .ok (.iconst 2, 1) := by decide +kernel
theorem dX8_comes_41 : decode cX8_comes 41 = .ok (.iadd, 1) := by decide +kernel
theorem dX8_comes_42 : decode cX8_comes 42 = .ok (.iload_n 3, 1) := by decide +kernel
theorem dX8_comes_43 : decode cX8_comes 43 = .ok (.iastore, 1) := by decide +kernel
theorem dX8_comes_44 : decode cX8_comes 44 = .ok (.aload_n 0, 1) := by decide +kernel
theorem dX8_comes_45 : decode cX8_comes 45 = .ok (.getfield 13, 3) := by decide +kernel
theorem dX8_comes_48 : decode cX8_comes 48 = .ok (.iload 6, 2) := by decide +kernel
theorem dX8_comes_50 : decode cX8_comes 50 = .ok (.iconst 3, 1) := by decide +kernel
theorem dX8_comes_51 : decode cX8_comes 51 = .ok (.iadd, 1) := by decide +kernel
theorem dX8_comes_52 : decode cX8_comes 52 = .ok (.iload 4, 2) := by decide +kernel
theorem dX8_comes_54 : decode cX8_comes 54 = .ok (.iastore, 1) := by decide +kernel
theorem dX8_comes_55 : decode cX8_comes 55 = .ok (.aload_n 0, 1) := by decide +kernel
theorem dX8_comes_56 : decode cX8_comes 56 = .ok (.getfield 13, 3) := by decide +kernel
theorem dX8_comes_59 : decode cX8_comes 59 = .ok (.iload 6, 2) := by decide +kernel
theorem dX8_comes_61 : decode cX8_comes 61 = .ok (.iconst 4, 1) := by decide +kernel
theorem dX8_comes_62 : decode cX8_comes 62 = .ok (.iadd, 1) := by decide +kernel
theorem dX8_comes_63 : decode cX8_comes 63 = .ok (.iload 5, 2) := by decide +kernel
theorem dX8_comes_65 : decode cX8_comes 65 = .ok (.iastore, 1) := by decide +kernel
theorem dX8_comes_66 : decode cX8_comes 66 = .ok (.aload_n 0, 1) := by decide +kernel
theorem dX8_comes_67 : decode cX8_comes 67 = .ok (.getfield 13, 3) := by decide +kernel
theorem dX8_comes_70 : decode cX8_comes 70 = .ok (.iload 6, 2) := by decide +kernel
theorem dX8_comes_72 : decode cX8_comes 72 = .ok (.iconst 5, 1) := by decide +kernel
theorem dX8_comes_73 : decode cX8_comes 73 = .ok (.iadd, 1) := by decide +kernel
theorem dX8_comes_74 : decode cX8_comes 74 = .ok (.bipush (-4), 2) := by decide +kernel
theorem dX8_comes_76 : decode cX8_comes 76 = .ok (.iastore, 1) := by decide +kernel
theorem dX8_comes_77 : decode cX8_comes 77 = .ok (.aload_n 0, 1) := by decide +kernel
theorem dX8_comes_78 : decode cX8_comes 78 = .ok (.getfield 13, 3) := by decide +kernel
theorem dX8_comes_81 : decode cX8_comes 81 = .ok (.iload 6, 2) := by decide +kernel
theorem dX8_comes_83 : decode cX8_comes 83 = .ok (.bipush 6, 2) := by decide +kernel
theorem dX8_comes_85 : decode cX8_comes 85 = .ok (.iadd, 1) := by decide +kernel
theorem dX8_comes_86 : decode cX8_comes 86 = .ok (.bipush (-4), 2) := by decide +kernel
theorem dX8_comes_88 : decode cX8_comes 88 = .ok (.iastore, 1) := by decide +kernel
theorem dX8_comes_89 : decode cX8_comes 89 = .ok (.aload_n 0, 1) := by decide +kernel
theorem dX8_comes_90 : decode cX8_comes 90 = .ok (.getfield 13, 3) := by decide +kernel
theorem dX8_comes_93 : decode cX8_comes 93 = .ok (.iconst 2, 1) := by decide +kernel
theorem dX8_comes_94 : decode cX8_comes 94 = .ok (.dup2, 1) := by decide +kernel
theorem dX8_comes_95 : decode cX8_comes 95 = .ok (.iaload, 1) := by decide +kernel
theorem dX8_comes_96 : decode cX8_comes 96 = .ok (.iconst 1, 1) := by decide +kernel
theorem dX8_comes_97 : decode cX8_comes 97 = .ok (.iadd, 1) := by decide +kernel
theorem dX8_comes_98 : decode cX8_comes 98 = .ok (.iastore, 1) := by decide +kernel
theorem dX8_comes_99 : decode cX8_comes 99 = .ok (.return_, 1) := by decide +kernel
theorem dX8_takesAll_0 : decode cX8_takesAll 0 = .ok (.iconst 0, 1) := by decide +kernel
theorem dX8_takesAll_1 : decode cX8_takesAll 1 = .ok (.istore_n 1, 1) := by decide +kernel
theorem dX8_takesAll_2 : decode cX8_takesAll 2 = .ok (.iload_n 1, 1) := by decide +kernel
theorem dX8_takesAll_3 : decode cX8_takesAll 3 = .ok (.bipush 65, 2) := by decide +kernel
theorem dX8_takesAll_5 : decode cX8_takesAll 5 = .ok (.if_icmp .ge 21, 3) := by decide +kernel
theorem dX8_takesAll_8 : decode cX8_takesAll 8 = .ok (.aload_n 0, 1) := by decide +kernel
theorem dX8_takesAll_9 : decode cX8_takesAll 9 = .ok (.getfield 7, 3) := by decide +kernel
theorem dX8_takesAll_12 : decode cX8_takesAll 12 = .ok (.iload_n 1, 1) := by decide +kernel
theorem dX8_takesAll_13 : decode cX8_takesAll 13 = .ok (.aload_n 0, 1) := by decide +kernel
theorem dX8_takesAll_14 : decode cX8_takesAll 14 = .ok (.getfield 13, 3) := by decide +kernel
theorem dX8_takesAll_17 : decode cX8_takesAll 17 = .ok (.iload_n 1, 1) := by decide +kernel
theorem dX8_takesAll_18 : decode cX8_takesAll 18 = .ok (.iaload, 1) := by decide +kernel
theorem dX8_takesAll_19 : decode cX8_takesAll 19 = .ok (.iastore, 1) := by decide +kernel
theorem dX8_takesAll_20 : decode cX8_takesAll 20 = .ok (.iinc 1 1, 3) := by decide +kernel
theorem dX8_takesAll_23 : decode cX8_takesAll 23 = .ok (.goto (-21), 3) := by decide +kernel
theorem dX8_takesAll_26 : decode cX8_takesAll 26 = .ok (.aload_n 0, 1) := by decide +kernel
theorem dX8_takesAll_27 : decode cX8_takesAll 27 = .ok (.iconst 0, 1) := by decide +kernel
theorem dX8_takesAll_28 : decode cX8_takesAll 28 = .ok (.putfield 48, 3) := by decide +kernel
theorem dX8_takesAll_31 : decode cX8_takesAll 31 = .ok (.return_, 1) := by decide +kernel
theorem dX8_isAt_0 : decode cX8_isAt 0 = .ok (.aload_n 0, 1) := by decide +kernel
theorem dX8_isAt_1 : decode cX8_isAt 1 = .ok (.getfield 52, 3) := by decide +kernel
theorem dX8_isAt_4 : decode cX8_isAt 4 = .ok (.aload_n 0, 1) := by decide +kernel
theorem dX8_isAt_5 : decode cX8_isAt 5 = .ok (.getfield 55, 3) := by decide +kernel
theorem dX8_isAt_8 : decode cX8_isAt 8 = .ok (.if_icmp .ge 24, 3) := by decide +kernel
theorem dX8_isAt_11 : decode cX8_isAt 11 = .ok (.aload_n 0, 1) := by decide +kernel
theorem dX8_isAt_12 : decode cX8_isAt 12 = .ok (.getfield 19, 3) := by decide +kernel
theorem dX8_isAt_15 : decode cX8_isAt 15 = .ok (.aload_n 0, 1) := by decide +kernel
theorem dX8_isAt_16 : decode cX8_isAt 16 = .ok (.getfield 52, 3) := by decide +kernel
theorem dX8_isAt_19 : decode cX8_isAt 19 = .ok (.iaload, 1) := by decide +kernel
theorem dX8_isAt_20 : decode cX8_isAt 20 = .ok (.iload_n 1, 1) := by decide +kernel
theorem dX8_isAt_21 : decode cX8_isAt 21 = .ok (.iload_n 2, 1) := by decide +kernel
theorem dX8_isAt_22 : decode cX8_isAt 22 = .ok (.invokestatic 58, 3) := by decide +kernel
theorem dX8_isAt_25 : decode cX8_isAt 25 = .ok (.ifCond .eq 7, 3) := by decide +kernel
theorem dX8_isAt_28 : decode cX8_isAt 28 = .ok (.iconst 1, 1) := by decide +kernel
theorem dX8_isAt_29 : decode cX8_isAt 29 = .ok (.goto 4, 3) := by decide +kernel
theorem dX8_isAt_32 : decode cX8_isAt 32 = .ok (.iconst 0, 1) := by decide +kernel
theorem dX8_isAt_33 : decode cX8_isAt 33 = .ok (.ireturn, 1) := by decide +kernel
theorem dX8_isWord_0 : decode cX8_isWord 0 = .ok (.aload_n 0, 1) := by decide +kernel
theorem dX8_isWord_1 : decode cX8_isWord 1 = .ok (.getfield 52, 3) := by decide +kernel
theorem dX8_isWord_4 : decode cX8_isWord 4 = .ok (.iconst 4, 1) := by decide +kernel
theorem dX8_isWord_5 : decode cX8_isWord 5 = .ok (.iadd, 1) := by decide +kernel
theorem dX8_isWord_6 : decode cX8_isWord 6 = .ok (.aload_n 0, 1) := by decide +kernel
theorem dX8_isWord_7 : decode cX8_isWord 7 = .ok (.getfield 55, 3) := by decide +kernel
theorem dX8_isWord_10 : decode cX8_isWord 10 = .ok (.if_icmp .ge 82, 3) := by decide +kernel
theorem dX8_isWord_13 : decode cX8_isWord 13 = .ok (.aload_n 0, 1) := by decide +kernel
theorem dX8_isWord_14 : decode cX8_isWord 14 = .ok (.getfield 19, 3) := by decide +kernel
theorem dX8_isWord_17 : decode cX8_isWord 17 = .ok (.aload_n 0, 1) := by decide +kernel
theorem dX8_isWord_18 : decode cX8_isWord 18 = .ok (.getfield 52, 3) := by decide +kernel
theorem dX8_isWord_21 : decode cX8_isWord 21 = .ok (.iaload, 1) := by decide +kernel
theorem dX8_isWord_22 : decode cX8_isWord 22 = .ok (.iload_n 1, 1) := by decide +kernel
theorem dX8_isWord_23 : decode cX8_isWord 23 = .ok (.if_icmp .ne 69, 3) := by decide +kernel
theorem dX8_isWord_26 : decode cX8_isWord 26 = .ok (.aload_n 0, 1) := by decide +kernel
theorem dX8_isWord_27 : decode cX8_isWord 27 = .ok (.getfield 19, 3) := by decide +kernel
theorem dX8_isWord_30 : decode cX8_isWord 30 = .ok (.aload_n 0, 1) := by decide +kernel
theorem dX8_isWord_31 : decode cX8_isWord 31 = .ok (.getfield 52, 3) := by decide +kernel
theorem dX8_isWord_34 : decode cX8_isWord 34 = .ok (.iconst 1, 1) := by decide +kernel
theorem dX8_isWord_35 : decode cX8_isWord 35 = .ok (.iadd, 1) := by decide +kernel
theorem dX8_isWord_36 : decode cX8_isWord 36 = .ok (.iaload, 1) := by decide +kernel
theorem dX8_isWord_37 : decode cX8_isWord 37 = .ok (.iload_n 2, 1) := by decide +kernel
theorem dX8_isWord_38 : decode cX8_isWord 38 = .ok (.if_icmp .ne 54, 3) := by decide +kernel
theorem dX8_isWord_41 : decode cX8_isWord 41 = .ok (.aload_n 0, 1) := by decide +kernel
theorem dX8_isWord_42 : decode cX8_isWord 42 = .ok (.getfield 19, 3) := by decide +kernel
theorem dX8_isWord_45 : decode cX8_isWord 45 = .ok (.aload_n 0, 1) := by decide +kernel
theorem dX8_isWord_46 : decode cX8_isWord 46 = .ok (.getfield 52, 3) := by decide +kernel
theorem dX8_isWord_49 : decode cX8_isWord 49 = .ok (.iconst 2, 1) := by decide +kernel
theorem dX8_isWord_50 : decode cX8_isWord 50 = .ok (.iadd, 1) := by decide +kernel
theorem dX8_isWord_51 : decode cX8_isWord 51 = .ok (.iaload, 1) := by decide +kernel
theorem dX8_isWord_52 : decode cX8_isWord 52 = .ok (.iload_n 3, 1) := by decide +kernel
theorem dX8_isWord_53 : decode cX8_isWord 53 = .ok (.if_icmp .ne 39, 3) := by decide +kernel
theorem dX8_isWord_56 : decode cX8_isWord 56 = .ok (.aload_n 0, 1) := by decide +kernel
theorem dX8_isWord_57 : decode cX8_isWord 57 = .ok (.getfield 19, 3) := by decide +kernel
theorem dX8_isWord_60 : decode cX8_isWord 60 = .ok (.aload_n 0, 1) := by decide +kernel
theorem dX8_isWord_61 : decode cX8_isWord 61 = .ok (.getfield 52, 3) := by decide +kernel
theorem dX8_isWord_64 : decode cX8_isWord 64 = .ok (.iconst 3, 1) := by decide +kernel
theorem dX8_isWord_65 : decode cX8_isWord 65 = .ok (.iadd, 1) := by decide +kernel
theorem dX8_isWord_66 : decode cX8_isWord 66 = .ok (.iaload, 1) := by decide +kernel
theorem dX8_isWord_67 : decode cX8_isWord 67 = .ok (.iload 4, 2) := by decide +kernel
theorem dX8_isWord_69 : decode cX8_isWord 69 = .ok (.if_icmp .ne 23, 3) := by decide +kernel
theorem dX8_isWord_72 : decode cX8_isWord 72 = .ok (.aload_n 0, 1) := by decide +kernel
theorem dX8_isWord_73 : decode cX8_isWord 73 = .ok (.getfield 19, 3) := by decide +kernel
theorem dX8_isWord_76 : decode cX8_isWord 76 = .ok (.aload_n 0, 1) := by decide +kernel
theorem dX8_isWord_77 : decode cX8_isWord 77 = .ok (.getfield 52, 3) := by decide +kernel
theorem dX8_isWord_80 : decode cX8_isWord 80 = .ok (.iconst 4, 1) := by decide +kernel
theorem dX8_isWord_81 : decode cX8_isWord 81 = .ok (.iadd, 1) := by decide +kernel
theorem dX8_isWord_82 : decode cX8_isWord 82 = .ok (.iaload, 1) := by decide +kernel
theorem dX8_isWord_83 : decode cX8_isWord 83 = .ok (.bipush 32, 2) := by decide +kernel
theorem dX8_isWord_85 : decode cX8_isWord 85 = .ok (.if_icmp .ne 7, 3) := by decide +kernel
theorem dX8_isWord_88 : decode cX8_isWord 88 = .ok (.iconst 1, 1) := by decide +kernel
theorem dX8_isWord_89 : decode cX8_isWord 89 = .ok (.goto 4, 3) := by decide +kernel
theorem dX8_isWord_92 : decode cX8_isWord 92 = .ok (.iconst 0, 1) := by decide +kernel
theorem dX8_isWord_93 : decode cX8_isWord 93 = .ok (.ireturn, 1) := by decide +kernel
theorem dX8_takesNumber_0 : decode cX8_takesNumber 0 = .ok (.aload_n 0, 1) := by decide +kernel
theorem dX8_takesNumber_1 : decode cX8_takesNumber 1 = .ok (.getfield 52, 3) := by decide +kernel
theorem dX8_takesNumber_4 : decode cX8_takesNumber 4 = .ok (.istore_n 1, 1) := by decide +kernel
theorem dX8_takesNumber_5 : decode cX8_takesNumber 5 = .ok (.iconst 0, 1) := by decide +kernel
theorem dX8_takesNumber_6 : decode cX8_takesNumber 6 = .ok (.istore_n 2, 1) := by decide +kernel
theorem dX8_takesNumber_7 : decode cX8_takesNumber 7 = .ok (.aload_n 0, 1) := by decide +kernel
theorem dX8_takesNumber_8 : decode cX8_takesNumber 8 = .ok (.getfield 52, 3) := by decide +kernel
theorem dX8_takesNumber_11 : decode cX8_takesNumber 11 = .ok (.iload_n 1, 1) := by decide +kernel
theorem dX8_takesNumber_12 : decode cX8_takesNumber 12 = .ok (.iconst 2, 1) := by decide +kernel
theorem dX8_takesNumber_13 : decode cX8_takesNumber 13 = .ok (.iadd, 1) := by decide +kernel
theorem dX8_takesNumber_14 : decode cX8_takesNumber 14 = .ok (.if_icmp .ge 45, 3) := by decide +kernel
theorem dX8_takesNumber_17 : decode cX8_takesNumber 17 = .ok (.aload_n 0, 1) := by decide +kernel
theorem dX8_takesNumber_18 : decode cX8_takesNumber 18 = .ok (.bipush 48, 2) := by decide +kernel
theorem dX8_takesNumber_20 : decode cX8_takesNumber 20 = .ok (.bipush 57, 2) := by decide +kernel
theorem dX8_takesNumber_22 : decode cX8_takesNumber 22 = .ok (.invokevirtual 62, 3) := by decide +kernel
theorem dX8_takesNumber_25 : decode cX8_takesNumber 25 = .ok (.ifCond .eq 34, 3) := by decide +kernel
theorem dX8_takesNumber_28 : decode cX8_takesNumber 28 = .ok (.bipush 10, 2) := by decide +kernel
theorem dX8_takesNumber_30 : decode cX8_takesNumber 30 = .ok (.iload_n 2, 1) := by decide +kernel
theorem dX8_takesNumber_31 : decode cX8_takesNumber 31 = .ok (.imul, 1) := by decide +kernel
theorem dX8_takesNumber_32 : decode cX8_takesNumber 32 = .ok (.aload_n 0, 1) := by decide +kernel
theorem dX8_takesNumber_33 : decode cX8_takesNumber 33 = .ok (.getfield 19, 3) := by decide +kernel
theorem dX8_takesNumber_36 : decode cX8_takesNumber 36 = .ok (.aload_n 0, 1) := by decide +kernel
theorem dX8_takesNumber_37 : decode cX8_takesNumber 37 = .ok (.getfield 52, 3) := by decide +kernel
theorem dX8_takesNumber_40 : decode cX8_takesNumber 40 = .ok (.iaload, 1) := by decide +kernel
theorem dX8_takesNumber_41 : decode cX8_takesNumber 41 = .ok (.iadd, 1) := by decide +kernel
theorem dX8_takesNumber_42 : decode cX8_takesNumber 42 = .ok (.bipush 48, 2) := by decide +kernel
theorem dX8_takesNumber_44 : decode cX8_takesNumber 44 = .ok (.isub, 1) := by decide +kernel
theorem dX8_takesNumber_45 : decode cX8_takesNumber 45 = .ok (.istore_n 2, 1) := by decide +kernel
theorem dX8_takesNumber_46 : decode cX8_takesNumber 46 = .ok (.aload_n 0, 1) := by decide +kernel
theorem dX8_takesNumber_47 : decode cX8_takesNumber 47 = .ok (.dup, 1) := by decide +kernel
theorem dX8_takesNumber_48 : decode cX8_takesNumber 48 = .ok (.getfield 52, 3) := by decide +kernel
theorem dX8_takesNumber_51 : decode cX8_takesNumber 51 = .ok (.iconst 1, 1) := by decide +kernel
theorem dX8_takesNumber_52 : decode cX8_takesNumber 52 = .ok (.iadd, 1) := by decide +kernel
theorem dX8_takesNumber_53 : decode cX8_takesNumber 53 = .ok (.putfield 52, 3) := by decide +kernel
theorem dX8_takesNumber_56 : decode cX8_takesNumber 56 = .ok (.goto (-49), 3) := by decide +kernel
theorem dX8_takesNumber_59 : decode cX8_takesNumber 59 = .ok (.aload_n 0, 1) := by decide +kernel
theorem dX8_takesNumber_60 : decode cX8_takesNumber 60 = .ok (.getfield 22, 3) := by decide +kernel
theorem dX8_takesNumber_63 : decode cX8_takesNumber 63 = .ok (.aload_n 0, 1) := by decide +kernel
theorem dX8_takesNumber_64 : decode cX8_takesNumber 64 = .ok (.getfield 66, 3) := by decide +kernel
theorem dX8_takesNumber_67 : decode cX8_takesNumber 67 = .ok (.iload_n 2, 1) := by decide +kernel
theorem dX8_takesNumber_68 : decode cX8_takesNumber 68 = .ok (.iastore, 1) := by decide +kernel
theorem dX8_takesNumber_69 : decode cX8_takesNumber 69 = .ok (.aload_n 0, 1) := by decide +kernel
theorem dX8_takesNumber_70 : decode cX8_takesNumber 70 = .ok (.dup, 1) := by decide +kernel
theorem dX8_takesNumber_71 : decode cX8_takesNumber 71 = .ok (.getfield 66, 3) := by decide +kernel
theorem dX8_takesNumber_74 : decode cX8_takesNumber 74 = .ok (.iconst 1, 1) := by decide +kernel
theorem dX8_takesNumber_75 : decode cX8_takesNumber 75 = .ok (.iadd, 1) := by decide +kernel
theorem dX8_takesNumber_76 : decode cX8_takesNumber 76 = .ok (.putfield 66, 3) := by decide +kernel
theorem dX8_takesNumber_79 : decode cX8_takesNumber 79 = .ok (.aload_n 0, 1) := by decide +kernel
theorem dX8_takesNumber_80 : decode cX8_takesNumber 80 = .ok (.getfield 52, 3) := by decide +kernel
theorem dX8_takesNumber_83 : decode cX8_takesNumber 83 = .ok (.iload_n 1, 1) := by decide +kernel
theorem dX8_takesNumber_84 : decode cX8_takesNumber 84 = .ok (.if_icmp .le 7, 3) := by decide +kernel
theorem dX8_takesNumber_87 : decode cX8_takesNumber 87 = .ok (.iconst 1, 1) := by decide +kernel
theorem dX8_takesNumber_88 : decode cX8_takesNumber 88 = .ok (.goto 4, 3) := by decide +kernel
theorem dX8_takesNumber_91 : decode cX8_takesNumber 91 = .ok (.iconst 0, 1) := by decide +kernel
theorem dX8_takesNumber_92 : decode cX8_takesNumber 92 = .ok (.ireturn, 1) := by decide +kernel
theorem dX8_takesNumbers_0 : decode cX8_takesNumbers 0 = .ok (.aload_n 0, 1) := by decide +kernel
theorem dX8_takesNumbers_1 : decode cX8_takesNumbers 1 = .ok (.dup, 1) := by decide +kernel
theorem dX8_takesNumbers_2 : decode cX8_takesNumbers 2 = .ok (.getfield 52, 3) := by decide +kernel
theorem dX8_takesNumbers_5 : decode cX8_takesNumbers 5 = .ok (.iconst 5, 1) := by decide +kernel
theorem dX8_takesNumbers_6 : decode cX8_takesNumbers 6 = .ok (.iadd, 1) := by decide +kernel
theorem dX8_takesNumbers_7 : decode cX8_takesNumbers 7 = .ok (.putfield 52, 3) := by decide +kernel
theorem dX8_takesNumbers_10 : decode cX8_takesNumbers 10 = .ok (.aload_n 0, 1) := by decide +kernel
theorem dX8_takesNumbers_11 : decode cX8_takesNumbers 11 = .ok (.iconst 0, 1) := by decide +kernel
theorem dX8_takesNumbers_12 : decode cX8_takesNumbers 12 = .ok (.putfield 66, 3) := by decide +kernel
theorem dX8_takesNumbers_15 : decode cX8_takesNumbers 15 = .ok (.iconst 1, 1) := by decide +kernel
theorem dX8_takesNumbers_16 : decode cX8_takesNumbers 16 = .ok (.istore_n 3, 1) := by decide +kernel
theorem dX8_takesNumbers_17 : decode cX8_takesNumbers 17 = .ok (.iload_n 3, 1) := by decide +kernel
theorem dX8_takesNumbers_18 : decode cX8_takesNumbers 18 = .ok (.ifCond .eq 50, 3) := by decide +kernel
theorem dX8_takesNumbers_21 : decode cX8_takesNumbers 21 = .ok (.aload_n 0, 1) := by decide +kernel
theorem dX8_takesNumbers_22 : decode cX8_takesNumbers 22 = .ok (.getfield 66, 3) := by decide +kernel
theorem dX8_takesNumbers_25 : decode cX8_takesNumbers 25 = .ok (.iload_n 2, 1) := by decide +kernel
theorem dX8_takesNumbers_26 : decode cX8_takesNumbers 26 = .ok (.if_icmp .eq 10, 3) := by decide +kernel
theorem dX8_takesNumbers_29 : decode cX8_takesNumbers 29 = .ok (.aload_n 0, 1) := by decide +kernel
theorem dX8_takesNumbers_30 : decode cX8_takesNumbers 30 = .ok (.invokevirtual 69, 3) := by decide +kernel
theorem dX8_takesNumbers_33 : decode cX8_takesNumbers 33 = .ok (.ifCond .ne 5, 3) := by decide +kernel
theorem dX8_takesNumbers_36 : decode cX8_takesNumbers 36 = .ok (.iconst 0, 1) := by decide +kernel
theorem dX8_takesNumbers_37 : decode cX8_takesNumbers 37 = .ok (.ireturn, 1) := by decide +kernel
theorem dX8_takesNumbers_38 : decode cX8_takesNumbers 38 = .ok (.aload_n 0, 1) := by decide +kernel
theorem dX8_takesNumbers_39 : decode cX8_takesNumbers 39 = .ok (.bipush 44, 2) := by decide +kernel
theorem dX8_takesNumbers_41 : decode cX8_takesNumbers 41 = .ok (.bipush 44, 2) := by decide +kernel
theorem dX8_takesNumbers_43 : decode cX8_takesNumbers 43 = .ok (.invokevirtual 62, 3) := by decide +kernel
theorem dX8_takesNumbers_46 : decode cX8_takesNumbers 46 = .ok (.istore_n 3, 1) := by decide +kernel
theorem dX8_takesNumbers_47 : decode cX8_takesNumbers 47 = .ok (.aload_n 0, 1) := by decide +kernel
theorem dX8_takesNumbers_48 : decode cX8_takesNumbers 48 = .ok (.dup, 1) := by decide +kernel
theorem dX8_takesNumbers_49 : decode cX8_takesNumbers 49 = .ok (.getfield 52, 3) := by decide +kernel
theorem dX8_takesNumbers_52 : decode cX8_takesNumbers 52 = .ok (.iload_n 3, 1) := by decide +kernel
theorem dX8_takesNumbers_53 : decode cX8_takesNumbers 53 = .ok (.ifCond .eq 7, 3) := by decide +kernel
theorem dX8_takesNumbers_56 : decode cX8_takesNumbers 56 = .ok (.iconst 1, 1) := by decide +kernel
theorem dX8_takesNumbers_57 : decode cX8_takesNumbers 57 = .ok (.goto 4, 3) := by decide +kernel
theorem dX8_takesNumbers_60 : decode cX8_takesNumbers 60 = .ok (.iconst 0, 1) := by decide +kernel
theorem dX8_takesNumbers_61 : decode cX8_takesNumbers 61 = .ok (.iadd, 1) := by decide +kernel
theorem dX8_takesNumbers_62 : decode cX8_takesNumbers 62 = .ok (.putfield 52, 3) := by decide +kernel
theorem dX8_takesNumbers_65 : decode cX8_takesNumbers 65 = .ok (.goto (-48), 3) := by decide +kernel
theorem dX8_takesNumbers_68 : decode cX8_takesNumbers 68 = .ok (.aload_n 0, 1) := by decide +kernel
theorem dX8_takesNumbers_69 : decode cX8_takesNumbers 69 = .ok (.getfield 66, 3) := by decide +kernel
theorem dX8_takesNumbers_72 : decode cX8_takesNumbers 72 = .ok (.iload_n 1, 1) := by decide +kernel
theorem dX8_takesNumbers_73 : decode cX8_takesNumbers 73 = .ok (.if_icmp .lt 18, 3) := by decide +kernel
theorem dX8_takesNumbers_76 : decode cX8_takesNumbers 76 = .ok (.aload_n 0, 1) := by decide +kernel
theorem dX8_takesNumbers_77 : decode cX8_takesNumbers 77 = .ok (.bipush 59, 2) := by decide +kernel
theorem dX8_takesNumbers_79 : decode cX8_takesNumbers 79 = .ok (.bipush 59, 2) := by decide +kernel
theorem dX8_takesNumbers_81 : decode cX8_takesNumbers 81 = .ok (.invokevirtual 62, 3) := by decide +kernel
theorem dX8_takesNumbers_84 : decode cX8_takesNumbers 84 = .ok (.ifCond .eq 7, 3) := by decide +kernel
theorem dX8_takesNumbers_87 : decode cX8_takesNumbers 87 = .ok (.iconst 1, 1) := by decide +kernel
theorem dX8_takesNumbers_88 : decode cX8_takesNumbers 88 = .ok (.goto 4, 3) := by decide +kernel
theorem dX8_takesNumbers_91 : decode cX8_takesNumbers 91 = .ok (.iconst 0, 1) := by decide +kernel
theorem dX8_takesNumbers_92 : decode cX8_takesNumbers 92 = .ok (.istore 4, 2) := by decide +kernel
theorem dX8_takesNumbers_94 : decode cX8_takesNumbers 94 = .ok (.aload_n 0, 1) := by decide +kernel
theorem dX8_takesNumbers_95 : decode cX8_takesNumbers 95 = .ok (.dup, 1) := by decide +kernel
theorem dX8_takesNumbers_96 : decode cX8_takesNumbers 96 = .ok (.getfield 52, 3) := by decide +kernel
theorem dX8_takesNumbers_99 : decode cX8_takesNumbers 99 = .ok (.iconst 1, 1) := by decide +kernel
theorem dX8_takesNumbers_100 : decode cX8_takesNumbers 100 = .ok (.iadd, 1) := by decide +kernel
theorem dX8_takesNumbers_101 : decode cX8_takesNumbers 101 = .ok (.putfield 52, 3) := by decide +kernel
theorem dX8_takesNumbers_104 : decode cX8_takesNumbers 104 = .ok (.iload 4, 2) := by decide +kernel
theorem dX8_takesNumbers_106 : decode cX8_takesNumbers 106 = .ok (.ireturn, 1) := by decide +kernel
theorem dX8_takesYard_0 : decode cX8_takesYard 0 = .ok (.aload_n 0, 1) := by decide +kernel
theorem dX8_takesYard_1 : decode cX8_takesYard 1 = .ok (.getfield 13, 3) := by decide +kernel
theorem dX8_takesYard_4 : decode cX8_takesYard 4 = .ok (.iconst 0, 1) := by decide +kernel
theorem dX8_takesYard_5 : decode cX8_takesYard 5 = .ok (.iaload, 1) := by decide +kernel
theorem dX8_takesYard_6 : decode cX8_takesYard 6 = .ok (.ifCond .ne 44, 3) := by decide +kernel
theorem dX8_takesYard_9 : decode cX8_takesYard 9 = .ok (.aload_n 0, 1) := by decide +kernel
theorem dX8_takesYard_10 : decode cX8_takesYard 10 = .ok (.iconst 2, 1) := by decide +kernel
theorem dX8_takesYard_11 : decode cX8_takesYard 11 = .ok (.iconst 2, 1) := by decide +kernel
theorem dX8_takesYard_12 : decode cX8_takesYard 12 = .ok (.invokevirtual 73, 3) := by decide +kernel
theorem dX8_takesYard_15 : decode cX8_takesYard 15 = .ok (.ifCond .eq 35, 3) := by decide +kernel
theorem dX8_takesYard_18 : decode cX8_takesYard 18 = .ok (.aload_n 0, 1) := by decide +kernel
theorem dX8_takesYard_19 : decode cX8_takesYard 19 = .ok (.getfield 22, 3) := by decide +kernel
theorem dX8_takesYard_22 : decode cX8_takesYard 22 = .ok (.iconst 0, 1) := by decide +kernel
theorem dX8_takesYard_23 : decode cX8_takesYard 23 = .ok (.iaload, 1) := by decide +kernel
theorem dX8_takesYard_24 : decode cX8_takesYard 24 = .ok (.iconst 1, 1) := by decide +kernel
theorem dX8_takesYard_25 : decode cX8_takesYard 25 = .ok (.iconst 3, 1) := by decide +kernel
theorem dX8_takesYard_26 : decode cX8_takesYard 26 = .ok (.invokestatic 58, 3) := by decide +kernel
theorem dX8_takesYard_29 : decode cX8_takesYard 29 = .ok (.ifCond .eq 21, 3) := by decide +kernel
theorem dX8_takesYard_32 : decode cX8_takesYard 32 = .ok (.aload_n 0, 1) := by decide +kernel
theorem dX8_takesYard_33 : decode cX8_takesYard 33 = .ok (.getfield 22, 3) := by decide +kernel
theorem dX8_takesYard_36 : decode cX8_takesYard 36 = .ok (.iconst 1, 1) := by decide +kernel
theorem dX8_takesYard_37 : decode cX8_takesYard 37 = .ok (.iaload, 1) := by decide +kernel
theorem dX8_takesYard_38 : decode cX8_takesYard 38 = .ok (.iconst 1, 1) := by decide +kernel
theorem dX8_takesYard_39 : decode cX8_takesYard 39 = .ok (.iconst 4, 1) := by decide +kernel
theorem dX8_takesYard_40 : decode cX8_takesYard 40 = .ok (.invokestatic 58, 3) := by decide +kernel
theorem dX8_takesYard_43 : decode cX8_takesYard 43 = .ok (.ifCond .eq 7, 3) := by decide +kernel
theorem dX8_takesYard_46 : decode cX8_takesYard 46 = .ok (.iconst 1, 1) := by decide +kernel
theorem dX8_takesYard_47 : decode cX8_takesYard 47 = .ok (.goto 4, 3) := by decide +kernel
theorem dX8_takesYard_50 : decode cX8_takesYard 50 = .ok (.iconst 0, 1) := by decide +kernel
theorem dX8_takesYard_51 : decode cX8_takesYard 51 = .ok (.istore_n 1, 1) := by decide +kernel
theorem dX8_takesYard_52 : decode cX8_takesYard 52 = .ok (.iload_n 1, 1) := by decide +kernel
theorem dX8_takesYard_53 : decode cX8_takesYard 53 = .ok (.ifCond .eq 27, 3) := by decide +kernel
theorem dX8_takesYard_56 : decode cX8_takesYard 56 = .ok (.aload_n 0, 1) := by decide +kernel
theorem dX8_takesYard_57 : decode cX8_takesYard 57 = .ok (.getfield 13, 3) := by decide +kernel
theorem dX8_takesYard_60 : decode cX8_takesYard 60 = .ok (.iconst 0, 1) := by decide +kernel
theorem dX8_takesYard_61 : decode cX8_takesYard 61 = .ok (.aload_n 0, 1) := by decide +kernel
theorem dX8_takesYard_62 : decode cX8_takesYard 62 = .ok (.getfield 22, 3) := by decide +kernel
theorem dX8_takesYard_65 : decode cX8_takesYard 65 = .ok (.iconst 0, 1) := by decide +kernel
theorem dX8_takesYard_66 : decode cX8_takesYard 66 = .ok (.iaload, 1) := by decide +kernel
theorem dX8_takesYard_67 : decode cX8_takesYard 67 = .ok (.iastore, 1) := by decide +kernel
theorem dX8_takesYard_68 : decode cX8_takesYard 68 = .ok (.aload_n 0, 1) := by decide +kernel
theorem dX8_takesYard_69 : decode cX8_takesYard 69 = .ok (.getfield 13, 3) := by decide +kernel
theorem dX8_takesYard_72 : decode cX8_takesYard 72 = .ok (.iconst 1, 1) := by decide +kernel
theorem dX8_takesYard_73 : decode cX8_takesYard 73 = .ok (.aload_n 0, 1) := by decide +kernel
theorem dX8_takesYard_74 : decode cX8_takesYard 74 = .ok (.getfield 22, 3) := by decide +kernel
theorem dX8_takesYard_77 : decode cX8_takesYard 77 = .ok (.iconst 1, 1) := by decide +kernel
theorem dX8_takesYard_78 : decode cX8_takesYard 78 = .ok (.iaload, 1) := by decide +kernel
theorem dX8_takesYard_79 : decode cX8_takesYard 79 = .ok (.iastore, 1) := by decide +kernel
theorem dX8_takesYard_80 : decode cX8_takesYard 80 = .ok (.iload_n 1, 1) := by decide +kernel
theorem dX8_takesYard_81 : decode cX8_takesYard 81 = .ok (.ireturn, 1) := by decide +kernel
theorem dX8_takesPath_0 : decode cX8_takesPath 0 = .ok (.aload_n 0, 1) := by decide +kernel
theorem dX8_takesPath_1 : decode cX8_takesPath 1 = .ok (.iconst 2, 1) := by decide +kernel
theorem dX8_takesPath_2 : decode cX8_takesPath 2 = .ok (.bipush 6, 2) := by decide +kernel
theorem dX8_takesPath_4 : decode cX8_takesPath 4 = .ok (.invokevirtual 73, 3) := by decide +kernel
theorem dX8_takesPath_7 : decode cX8_takesPath 7 = .ok (.ifCond .eq 33, 3) := by decide +kernel
theorem dX8_takesPath_10 : decode cX8_takesPath 10 = .ok (.aload_n 0, 1) := by decide +kernel
theorem dX8_takesPath_11 : decode cX8_takesPath 11 = .ok (.getfield 22, 3) := by decide +kernel
theorem dX8_takesPath_14 : decode cX8_takesPath 14 = .ok (.iconst 0, 1) := by decide +kernel
theorem dX8_takesPath_15 : decode cX8_takesPath 15 = .ok (.iaload, 1) := by decide +kernel
theorem dX8_takesPath_16 : decode cX8_takesPath 16 = .ok (.aload_n 0, 1) := by decide +kernel
theorem dX8_takesPath_17 : decode cX8_takesPath 17 = .ok (.getfield 13, 3) := by decide +kernel
theorem dX8_takesPath_20 : decode cX8_takesPath 20 = .ok (.iconst 0, 1) := by decide +kernel
theorem dX8_takesPath_21 : decode cX8_takesPath 21 = .ok (.iaload, 1) := by decide +kernel
theorem dX8_takesPath_22 : decode cX8_takesPath 22 = .ok (.if_icmp .ge 18, 3) := by decide +kernel
theorem dX8_takesPath_25 : decode cX8_takesPath 25 = .ok (.aload_n 0, 1) := by decide +kernel
theorem dX8_takesPath_26 : decode cX8_takesPath 26 = .ok (.getfield 22, 3) := by decide +kernel
theorem dX8_takesPath_29 : decode cX8_takesPath 29 = .ok (.iconst 1, 1) := by decide +kernel
theorem dX8_takesPath_30 : decode cX8_takesPath 30 = .ok (.iaload, 1) := by decide +kernel
theorem dX8_takesPath_31 : decode cX8_takesPath 31 = .ok (.aload_n 0, 1) := by decide +kernel
theorem dX8_takesPath_32 : decode cX8_takesPath 32 = .ok (.getfield 13, 3) := by decide +kernel
theorem dX8_takesPath_35 : decode cX8_takesPath 35 = .ok (.iconst 1, 1) := by decide +kernel
theorem dX8_takesPath_36 : decode cX8_takesPath 36 = .ok (.iaload, 1) := by decide +kernel
theorem dX8_takesPath_37 : decode cX8_takesPath 37 = .ok (.if_icmp .lt 5, 3) := by decide +kernel
theorem dX8_takesPath_40 : decode cX8_takesPath 40 = .ok (.iconst 0, 1) := by decide +kernel
theorem dX8_takesPath_41 : decode cX8_takesPath 41 = .ok (.ireturn, 1) := by decide +kernel
theorem dX8_takesPath_42 : decode cX8_takesPath 42 = .ok (.iconst 4, 1) := by decide +kernel
theorem dX8_takesPath_43 : decode cX8_takesPath 43 = .ok (.iconst 4, 1) := by decide +kernel
theorem dX8_takesPath_44 : decode cX8_takesPath 44 = .ok (.aload_n 0, 1) := by decide +kernel
theorem dX8_takesPath_45 : decode cX8_takesPath 45 = .ok (.getfield 22, 3) := by decide +kernel
theorem dX8_takesPath_48 : decode cX8_takesPath 48 = .ok (.iconst 0, 1) := by decide +kernel
theorem dX8_takesPath_49 : decode cX8_takesPath 49 = .ok (.iaload, 1) := by decide +kernel
theorem dX8_takesPath_50 : decode cX8_takesPath 50 = .ok (.imul, 1) := by decide +kernel
theorem dX8_takesPath_51 : decode cX8_takesPath 51 = .ok (.iadd, 1) := by decide +kernel
theorem dX8_takesPath_52 : decode cX8_takesPath 52 = .ok (.aload_n 0, 1) := by decide +kernel
theorem dX8_takesPath_53 : decode cX8_takesPath 53 = .ok (.getfield 22, 3) := by decide +kernel
theorem dX8_takesPath_56 : decode cX8_takesPath 56 = .ok (.iconst 1, 1) := by decide +kernel
theorem dX8_takesPath_57 : decode cX8_takesPath 57 = .ok (.iaload, 1) := by decide +kernel
theorem dX8_takesPath_58 : decode cX8_takesPath 58 = .ok (.iadd, 1) := by decide +kernel
theorem dX8_takesPath_59 : decode cX8_takesPath 59 = .ok (.istore_n 1, 1) := by decide +kernel
theorem dX8_takesPath_60 : decode cX8_takesPath 60 = .ok (.aload_n 0, 1) := by decide +kernel
theorem dX8_takesPath_61 : decode cX8_takesPath 61 = .ok (.getfield 13, 3) := by decide +kernel
theorem dX8_takesPath_64 : decode cX8_takesPath 64 = .ok (.iload_n 1, 1) := by decide +kernel
theorem dX8_takesPath_65 : decode cX8_takesPath 65 = .ok (.iaload, 1) := by decide +kernel
theorem dX8_takesPath_66 : decode cX8_takesPath 66 = .ok (.bipush (-4), 2) := by decide +kernel
theorem dX8_takesPath_68 : decode cX8_takesPath 68 = .ok (.if_icmp .ne 7, 3) := by decide +kernel
theorem dX8_takesPath_71 : decode cX8_takesPath 71 = .ok (.iconst 1, 1) := by decide +kernel
theorem dX8_takesPath_72 : decode cX8_takesPath 72 = .ok (.goto 4, 3) := by decide +kernel
theorem dX8_takesPath_75 : decode cX8_takesPath 75 = .ok (.iconst 0, 1) := by decide +kernel
theorem dX8_takesPath_76 : decode cX8_takesPath 76 = .ok (.istore_n 2, 1) := by decide +kernel
theorem dX8_takesPath_77 : decode cX8_takesPath 77 = .ok (.iconst 0, 1) := by decide +kernel
theorem dX8_takesPath_78 : decode cX8_takesPath 78 = .ok (.istore_n 3, 1) := by decide +kernel
theorem dX8_takesPath_79 : decode cX8_takesPath 79 = .ok (.iconst 2, 1) := by decide +kernel
theorem dX8_takesPath_80 : decode cX8_takesPath 80 = .ok (.istore 4, 2) := by decide +kernel
theorem dX8_takesPath_82 : decode cX8_takesPath 82 = .ok (.iload 4, 2) := by decide +kernel
theorem dX8_takesPath_84 : decode cX8_takesPath 84 = .ok (.aload_n 0, 1) := by decide +kernel
theorem dX8_takesPath_85 : decode cX8_takesPath 85 = .ok (.getfield 66, 3) := by decide +kernel
theorem dX8_takesPath_88 : decode cX8_takesPath 88 = .ok (.if_icmp .ge 51, 3) := by decide +kernel
theorem dX8_takesPath_91 : decode cX8_takesPath 91 = .ok (.iload_n 2, 1) := by decide +kernel
theorem dX8_takesPath_92 : decode cX8_takesPath 92 = .ok (.ifCond .eq 19, 3) := by decide +kernel
theorem dX8_takesPath_95 : decode cX8_takesPath 95 = .ok (.aload_n 0, 1) := by decide +kernel
theorem dX8_takesPath_96 : decode cX8_takesPath 96 = .ok (.getfield 22, 3) := by decide +kernel
theorem dX8_takesPath_99 : decode cX8_takesPath 99 = .ok (.iload 4, 2) := by decide +kernel
theorem dX8_takesPath_101 : decode cX8_takesPath 101 = .ok (.iaload, 1) := by decide +kernel
theorem dX8_takesPath_102 : decode cX8_takesPath 102 = .ok (.bipush 12, 2) := by decide +kernel
theorem dX8_takesPath_104 : decode cX8_takesPath 104 = .ok (.if_icmp .ge 7, 3) := by decide +kernel
theorem dX8_takesPath_107 : decode cX8_takesPath 107 = .ok (.iconst 1, 1) := by decide +kernel
theorem dX8_takesPath_108 : decode cX8_takesPath 108 = .ok (.goto 4, 3) := by decide +kernel
theorem dX8_takesPath_111 : decode cX8_takesPath 111 = .ok (.iconst 0, 1) := by decide +kernel
theorem dX8_takesPath_112 : decode cX8_takesPath 112 = .ok (.istore_n 2, 1) := by decide +kernel
theorem dX8_takesPath_113 : decode cX8_takesPath 113 = .ok (.iload_n 3, 1) := by decide +kernel
theorem dX8_takesPath_114 : decode cX8_takesPath 114 = .ok (.iload_n 2, 1) := by decide +kernel
theorem dX8_takesPath_115 : decode cX8_takesPath 115 = .ok (.ifCond .eq 15, 3) := by decide +kernel
theorem dX8_takesPath_118 : decode cX8_takesPath 118 = .ok (.iconst 1, 1) := by decide +kernel
theorem dX8_takesPath_119 : decode cX8_takesPath 119 = .ok (.aload_n 0, 1) := by decide +kernel
theorem dX8_takesPath_120 : decode cX8_takesPath 120 = .ok (.getfield 22, 3) := by decide +kernel
theorem dX8_takesPath_123 : decode cX8_takesPath 123 = .ok (.iload 4, 2) := by decide +kernel
theorem dX8_takesPath_125 : decode cX8_takesPath 125 = .ok (.iaload, 1) := by decide +kernel
theorem dX8_takesPath_126 : decode cX8_takesPath 126 = .ok (.ishl, 1) := by decide +kernel
theorem dX8_takesPath_127 : decode cX8_takesPath 127 = .ok (.goto 4, 3) := by decide +kernel
theorem dX8_takesPath_130 : decode cX8_takesPath 130 = .ok (.iconst 0, 1) := by decide +kernel
theorem dX8_takesPath_131 : decode cX8_takesPath 131 = .ok (.ior, 1) := by decide +kernel
theorem dX8_takesPath_132 : decode cX8_takesPath 132 = .ok (.istore_n 3, 1) := by decide +kernel
theorem dX8_takesPath_133 : decode cX8_takesPath 133 = .ok (.iinc 4 1, 3) := by decide +kernel
theorem dX8_takesPath_136 : decode cX8_takesPath 136 = .ok (.goto (-54), 3) := by decide +kernel
theorem dX8_takesPath_139 : decode cX8_takesPath 139 = .ok (.aload_n 0, 1) := by decide +kernel
theorem dX8_takesPath_140 : decode cX8_takesPath 140 = .ok (.getfield 13, 3) := by decide +kernel
theorem dX8_takesPath_143 : decode cX8_takesPath 143 = .ok (.iload_n 1, 1) := by decide +kernel
theorem dX8_takesPath_144 : decode cX8_takesPath 144 = .ok (.iload_n 3, 1) := by decide +kernel
theorem dX8_takesPath_145 : decode cX8_takesPath 145 = .ok (.iastore, 1) := by decide +kernel
theorem dX8_takesPath_146 : decode cX8_takesPath 146 = .ok (.iload_n 2, 1) := by decide +kernel
theorem dX8_takesPath_147 : decode cX8_takesPath 147 = .ok (.ireturn, 1) := by decide +kernel
theorem dX8_takesTrain_0 : decode cX8_takesTrain 0 = .ok (.aload_n 0, 1) := by decide +kernel
theorem dX8_takesTrain_1 : decode cX8_takesTrain 1 = .ok (.iconst 5, 1) := by decide +kernel
theorem dX8_takesTrain_2 : decode cX8_takesTrain 2 = .ok (.iconst 5, 1) := by decide +kernel
theorem dX8_takesTrain_3 : decode cX8_takesTrain 3 = .ok (.invokevirtual 73, 3) := by decide +kernel
theorem dX8_takesTrain_6 : decode cX8_takesTrain 6 = .ok (.ifCond .eq 83, 3) := by decide +kernel
theorem dX8_takesTrain_9 : decode cX8_takesTrain 9 = .ok (.aload_n 0, 1) := by decide +kernel
theorem dX8_takesTrain_10 : decode cX8_takesTrain 10 = .ok (.getfield 13, 3) := by decide +kernel
theorem dX8_takesTrain_13 : decode cX8_takesTrain 13 = .ok (.iconst 2, 1) := by decide +kernel
theorem dX8_takesTrain_14 : decode cX8_takesTrain 14 = .ok (.iaload, 1) := by decide +kernel
theorem dX8_takesTrain_15 : decode cX8_takesTrain 15 = .ok (.bipush 7, 2) := by decide +kernel
theorem dX8_takesTrain_17 : decode cX8_takesTrain 17 = .ok (.if_icmp .ge 72, 3) := by decide +kernel
theorem dX8_takesTrain_20 : decode cX8_takesTrain 20 = .ok (.aload_n 0, 1) := by decide +kernel
theorem dX8_takesTrain_21 : decode cX8_takesTrain 21 = .ok (.getfield 22, 3) := by decide +kernel
theorem dX8_takesTrain_24 : decode cX8_takesTrain 24 = .ok (.iconst 0, 1) := by decide +kernel
theorem dX8_takesTrain_25 : decode cX8_takesTrain 25 = .ok (.iaload, 1) := by decide +kernel
theorem dX8_takesTrain_26 : decode cX8_takesTrain 26 = .ok (.aload_n 0, 1) := by decide +kernel
theorem dX8_takesTrain_27 : decode cX8_takesTrain 27 = .ok (.getfield 13, 3) := by decide +kernel
theorem dX8_takesTrain_30 : decode cX8_takesTrain 30 = .ok (.iconst 0, 1) := by decide +kernel
theorem dX8_takesTrain_31 : decode cX8_takesTrain 31 = .ok (.iaload, 1) := by decide +kernel
theorem dX8_takesTrain_32 : decode cX8_takesTrain 32 = .ok (.if_icmp .ge 57, 3) := by decide +kernel
theorem dX8_takesTrain_35 : decode cX8_takesTrain 35 = .ok (.aload_n 0, 1) := by decide +kernel
theorem dX8_takesTrain_36 : decode cX8_takesTrain 36 = .ok (.getfield 22, 3) := by decide +kernel
theorem dX8_takesTrain_39 : decode cX8_takesTrain 39 = .ok (.iconst 1, 1) := by decide +kernel
theorem dX8_takesTrain_40 : decode cX8_takesTrain 40 = .ok (.iaload, 1) := by decide +kernel
theorem dX8_takesTrain_41 : decode cX8_takesTrain 41 = .ok (.aload_n 0, 1) := by decide +kernel
theorem dX8_takesTrain_42 : decode cX8_takesTrain 42 = .ok (.getfield 13, 3) := by decide +kernel
theorem dX8_takesTrain_45 : decode cX8_takesTrain 45 = .ok (.iconst 0, 1) := by decide +kernel
theorem dX8_takesTrain_46 : decode cX8_takesTrain 46 = .ok (.iaload, 1) := by decide +kernel
theorem dX8_takesTrain_47 : decode cX8_takesTrain 47 = .ok (.if_icmp .ge 42, 3) := by decide +kernel
theorem dX8_takesTrain_50 : decode cX8_takesTrain 50 = .ok (.aload_n 0, 1) := by decide +kernel
theorem dX8_takesTrain_51 : decode cX8_takesTrain 51 = .ok (.getfield 22, 3) := by decide +kernel
theorem dX8_takesTrain_54 : decode cX8_takesTrain 54 = .ok (.iconst 2, 1) := by decide +kernel
theorem dX8_takesTrain_55 : decode cX8_takesTrain 55 = .ok (.iaload, 1) := by decide +kernel
theorem dX8_takesTrain_56 : decode cX8_takesTrain 56 = .ok (.iconst 1, 1) := by decide +kernel
theorem dX8_takesTrain_57 : decode cX8_takesTrain 57 = .ok (.bipush 98, 2) := by decide +kernel
theorem dX8_takesTrain_59 : decode cX8_takesTrain 59 = .ok (.invokestatic 58, 3) := by decide +kernel
theorem dX8_takesTrain_62 : decode cX8_takesTrain 62 = .ok (.ifCond .eq 27, 3) := by decide +kernel
theorem dX8_takesTrain_65 : decode cX8_takesTrain 65 = .ok (.aload_n 0, 1) := by decide +kernel
theorem dX8_takesTrain_66 : decode cX8_takesTrain 66 = .ok (.getfield 22, 3) := by decide +kernel
theorem dX8_takesTrain_69 : decode cX8_takesTrain 69 = .ok (.iconst 3, 1) := by decide +kernel
theorem dX8_takesTrain_70 : decode cX8_takesTrain 70 = .ok (.iaload, 1) := by decide +kernel
theorem dX8_takesTrain_71 : decode cX8_takesTrain 71 = .ok (.aload_n 0, 1) := by decide +kernel
theorem dX8_takesTrain_72 : decode cX8_takesTrain 72 = .ok (.getfield 22, 3) := by decide +kernel
theorem dX8_takesTrain_75 : decode cX8_takesTrain 75 = .ok (.iconst 2, 1) := by decide +kernel
theorem dX8_takesTrain_76 : decode cX8_takesTrain 76 = .ok (.iaload, 1) := by decide +kernel
theorem dX8_takesTrain_77 : decode cX8_takesTrain 77 = .ok (.bipush 98, 2) := by decide +kernel
theorem dX8_takesTrain_79 : decode cX8_takesTrain 79 = .ok (.invokestatic 58, 3) := by decide +kernel
theorem dX8_takesTrain_82 : decode cX8_takesTrain 82 = .ok (.ifCond .eq 7, 3) := by decide +kernel
theorem dX8_takesTrain_85 : decode cX8_takesTrain 85 = .ok (.iconst 1, 1) := by decide +kernel
theorem dX8_takesTrain_86 : decode cX8_takesTrain 86 = .ok (.goto 4, 3) := by decide +kernel
theorem dX8_takesTrain_89 : decode cX8_takesTrain 89 = .ok (.iconst 0, 1) := by decide +kernel
theorem dX8_takesTrain_90 : decode cX8_takesTrain 90 = .ok (.istore_n 1, 1) := by decide +kernel
theorem dX8_takesTrain_91 : decode cX8_takesTrain 91 = .ok (.iload_n 1, 1) := by decide +kernel
theorem dX8_takesTrain_92 : decode cX8_takesTrain 92 = .ok (.ifCond .eq 29, 3) := by decide +kernel
theorem dX8_takesTrain_95 : decode cX8_takesTrain 95 = .ok (.aload_n 0, 1) := by decide +kernel
theorem dX8_takesTrain_96 : decode cX8_takesTrain 96 = .ok (.getfield 22, 3) := by decide +kernel
theorem dX8_takesTrain_99 : decode cX8_takesTrain 99 = .ok (.iconst 4, 1) := by decide +kernel
theorem dX8_takesTrain_100 : decode cX8_takesTrain 100 = .ok (.iaload, 1) := by decide +kernel
theorem dX8_takesTrain_101 : decode cX8_takesTrain 101 = .ok (.aload_n 0, 1) := by decide +kernel
theorem dX8_takesTrain_102 : decode cX8_takesTrain 102 = .ok (.getfield 13, 3) := by decide +kernel
theorem dX8_takesTrain_105 : decode cX8_takesTrain 105 = .ok (.iconst 1, 1) := by decide +kernel
theorem dX8_takesTrain_106 : decode cX8_takesTrain 106 = .ok (.iaload, 1) := by decide +kernel
theorem dX8_takesTrain_107 : decode cX8_takesTrain 107 = .ok (.if_icmp .lt 16, 3) := by decide +kernel
theorem dX8_takesTrain_110 : decode cX8_takesTrain 110 = .ok (.aload_n 0, 1) := by decide +kernel
theorem dX8_takesTrain_111 : decode cX8_takesTrain 111 = .ok (.getfield 22, 3) := by decide +kernel
theorem dX8_takesTrain_114 : decode cX8_takesTrain 114 = .ok (.iconst 4, 1) := by decide +kernel
theorem dX8_takesTrain_115 : decode cX8_takesTrain 115 = .ok (.iaload, 1) := by decide +kernel
theorem dX8_takesTrain_116 : decode cX8_takesTrain 116 = .ok (.bipush 9, 2) := by decide +kernel
theorem dX8_takesTrain_118 : decode cX8_takesTrain 118 = .ok (.if_icmp .eq 5, 3) := by decide +kernel
theorem dX8_takesTrain_121 : decode cX8_takesTrain 121 = .ok (.iconst 0, 1) := by decide +kernel
theorem dX8_takesTrain_122 : decode cX8_takesTrain 122 = .ok (.ireturn, 1) := by decide +kernel
theorem dX8_takesTrain_123 : decode cX8_takesTrain 123 = .ok (.aload_n 0, 1) := by decide +kernel
theorem dX8_takesTrain_124 : decode cX8_takesTrain 124 = .ok (.aload_n 0, 1) := by decide +kernel
theorem dX8_takesTrain_125 : decode cX8_takesTrain 125 = .ok (.getfield 22, 3) := by decide +kernel
theorem dX8_takesTrain_128 : decode cX8_takesTrain 128 = .ok (.iconst 0, 1) := by decide +kernel
theorem dX8_takesTrain_129 : decode cX8_takesTrain 129 = .ok (.iaload, 1) := by decide +kernel
theorem dX8_takesTrain_130 : decode cX8_takesTrain 130 = .ok (.aload_n 0, 1) := by decide +kernel
theorem dX8_takesTrain_131 : decode cX8_takesTrain 131 = .ok (.getfield 22, 3) := by decide +kernel
theorem dX8_takesTrain_134 : decode cX8_takesTrain 134 = .ok (.iconst 1, 1) := by decide +kernel
theorem dX8_takesTrain_135 : decode cX8_takesTrain 135 = .ok (.iaload, 1) := by decide +kernel
theorem dX8_takesTrain_136 : decode cX8_takesTrain 136 = .ok (.aload_n 0, 1) := by decide +kernel
theorem dX8_takesTrain_137 : decode cX8_takesTrain 137 = .ok (.getfield 22, 3) := by decide +kernel
theorem dX8_takesTrain_140 : decode cX8_takesTrain 140 = .ok (.iconst 2, 1) := by decide +kernel
theorem dX8_takesTrain_141 : decode cX8_takesTrain 141 = .ok (.iaload, 1) := by decide +kernel
theorem dX8_takesTrain_142 : decode cX8_takesTrain 142 = .ok (.aload_n 0, 1) := by decide +kernel
theorem dX8_takesTrain_143 : decode cX8_takesTrain 143 = .ok (.getfield 22, 3) := by decide +kernel
theorem dX8_takesTrain_146 : decode cX8_takesTrain 146 = .ok (.iconst 3, 1) := by decide +kernel
theorem dX8_takesTrain_147 : decode cX8_takesTrain 147 = .ok (.iaload, 1) := by decide +kernel
theorem dX8_takesTrain_148 : decode cX8_takesTrain 148 = .ok (.aload_n 0, 1) := by decide +kernel
theorem dX8_takesTrain_149 : decode cX8_takesTrain 149 = .ok (.getfield 22, 3) := by decide +kernel
theorem dX8_takesTrain_152 : decode cX8_takesTrain 152 = .ok (.iconst 4, 1) := by decide +kernel
theorem dX8_takesTrain_153 : decode cX8_takesTrain 153 = .ok (.iaload, 1) := by decide +kernel
theorem dX8_takesTrain_154 : decode cX8_takesTrain 154 = .ok (.bipush 9, 2) := by decide +kernel
theorem dX8_takesTrain_156 : decode cX8_takesTrain 156 = .ok (.if_icmp .ne 8, 3) := by decide +kernel
theorem dX8_takesTrain_159 : decode cX8_takesTrain 159 = .ok (.bipush (-4), 2) := by decide +kernel
theorem dX8_takesTrain_161 : decode cX8_takesTrain 161 = .ok (.goto 9, 3) := by decide +kernel
theorem dX8_takesTrain_164 : decode cX8_takesTrain 164 = .ok (.aload_n 0, 1) := by decide +kernel
theorem dX8_takesTrain_165 : decode cX8_takesTrain 165 = .ok (.getfield 22, 3) := by decide +kernel
theorem dX8_takesTrain_168 : decode cX8_takesTrain 168 = .ok (.iconst 4, 1) := by decide +kernel
theorem dX8_takesTrain_169 : decode cX8_takesTrain 169 = .ok (.iaload, 1) := by decide +kernel
theorem dX8_takesTrain_170 : decode cX8_takesTrain 170 = .ok (.invokevirtual 41, 3) := by decide +kernel
theorem dX8_takesTrain_173 : decode cX8_takesTrain 173 = .ok (.iconst 1, 1) := by decide +kernel
theorem dX8_takesTrain_174 : decode cX8_takesTrain 174 = .ok (.ireturn, 1) := by decide +kernel
theorem dX8_takesPair_0 : decode cX8_takesPair 0 = .ok (.aload_n 0, 1) := by decide +kernel
theorem dX8_takesPair_1 : decode cX8_takesPair 1 = .ok (.iconst 2, 1) := by decide +kernel
theorem dX8_takesPair_2 : decode cX8_takesPair 2 = .ok (.iconst 2, 1) := by decide +kernel
theorem dX8_takesPair_3 : decode cX8_takesPair 3 = .ok (.invokevirtual 73, 3) := by decide +kernel
theorem dX8_takesPair_6 : decode cX8_takesPair 6 = .ok (.ifCond .eq 48, 3) := by decide +kernel
theorem dX8_takesPair_9 : decode cX8_takesPair 9 = .ok (.aload_n 0, 1) := by decide +kernel
theorem dX8_takesPair_10 : decode cX8_takesPair 10 = .ok (.getfield 22, 3) := by decide +kernel
theorem dX8_takesPair_13 : decode cX8_takesPair 13 = .ok (.iconst 0, 1) := by decide +kernel
theorem dX8_takesPair_14 : decode cX8_takesPair 14 = .ok (.iaload, 1) := by decide +kernel
theorem dX8_takesPair_15 : decode cX8_takesPair 15 = .ok (.aload_n 0, 1) := by decide +kernel
theorem dX8_takesPair_16 : decode cX8_takesPair 16 = .ok (.getfield 22, 3) := by decide +kernel
theorem dX8_takesPair_19 : decode cX8_takesPair 19 = .ok (.iconst 1, 1) := by decide +kernel
theorem dX8_takesPair_20 : decode cX8_takesPair 20 = .ok (.iaload, 1) := by decide +kernel
theorem dX8_takesPair_21 : decode cX8_takesPair 21 = .ok (.if_icmp .eq 33, 3) := by decide +kernel
theorem dX8_takesPair_24 : decode cX8_takesPair 24 = .ok (.aload_n 0, 1) := by decide +kernel
theorem dX8_takesPair_25 : decode cX8_takesPair 25 = .ok (.getfield 22, 3) := by decide +kernel
theorem dX8_takesPair_28 : decode cX8_takesPair 28 = .ok (.iconst 0, 1) := by decide +kernel
theorem dX8_takesPair_29 : decode cX8_takesPair 29 = .ok (.iaload, 1) := by decide +kernel
theorem dX8_takesPair_30 : decode cX8_takesPair 30 = .ok (.aload_n 0, 1) := by decide +kernel
theorem dX8_takesPair_31 : decode cX8_takesPair 31 = .ok (.getfield 13, 3) := by decide +kernel
theorem dX8_takesPair_34 : decode cX8_takesPair 34 = .ok (.iconst 2, 1) := by decide +kernel
theorem dX8_takesPair_35 : decode cX8_takesPair 35 = .ok (.iaload, 1) := by decide +kernel
theorem dX8_takesPair_36 : decode cX8_takesPair 36 = .ok (.if_icmp .ge 18, 3) := by decide +kernel
theorem dX8_takesPair_39 : decode cX8_takesPair 39 = .ok (.aload_n 0, 1) := by decide +kernel
theorem dX8_takesPair_40 : decode cX8_takesPair 40 = .ok (.getfield 22, 3) := by decide +kernel
theorem dX8_takesPair_43 : decode cX8_takesPair 43 = .ok (.iconst 1, 1) := by decide +kernel
theorem dX8_takesPair_44 : decode cX8_takesPair 44 = .ok (.iaload, 1) := by decide +kernel
theorem dX8_takesPair_45 : decode cX8_takesPair 45 = .ok (.aload_n 0, 1) := by decide +kernel
theorem dX8_takesPair_46 : decode cX8_takesPair 46 = .ok (.getfield 13, 3) := by decide +kernel
theorem dX8_takesPair_49 : decode cX8_takesPair 49 = .ok (.iconst 2, 1) := by decide +kernel
theorem dX8_takesPair_50 : decode cX8_takesPair 50 = .ok (.iaload, 1) := by decide +kernel
theorem dX8_takesPair_51 : decode cX8_takesPair 51 = .ok (.if_icmp .lt 5, 3) := by decide +kernel
theorem dX8_takesPair_54 : decode cX8_takesPair 54 = .ok (.iconst 0, 1) := by decide +kernel
theorem dX8_takesPair_55 : decode cX8_takesPair 55 = .ok (.ireturn, 1) := by decide +kernel
theorem dX8_takesPair_56 : decode cX8_takesPair 56 = .ok (.bipush 16, 2) := by decide +kernel
theorem dX8_takesPair_58 : decode cX8_takesPair 58 = .ok (.bipush 7, 2) := by decide +kernel
theorem dX8_takesPair_60 : decode cX8_takesPair 60 = .ok (.aload_n 0, 1) := by decide +kernel
theorem dX8_takesPair_61 : decode cX8_takesPair 61 = .ok (.getfield 22, 3) := by decide +kernel
theorem dX8_takesPair_64 : decode cX8_takesPair 64 = .ok (.iconst 0, 1) := by decide +kernel
theorem dX8_takesPair_65 : decode cX8_takesPair 65 = .ok (.iaload, 1) := by decide +kernel
theorem dX8_takesPair_66 : decode cX8_takesPair 66 = .ok (.imul, 1) := by decide +kernel
theorem dX8_takesPair_67 : decode cX8_takesPair 67 = .ok (.iadd, 1) := by decide +kernel
theorem dX8_takesPair_68 : decode cX8_takesPair 68 = .ok (.iconst 5, 1) := by decide +kernel
theorem dX8_takesPair_69 : decode cX8_takesPair 69 = .ok (.iadd, 1) := by decide +kernel
theorem dX8_takesPair_70 : decode cX8_takesPair 70 = .ok (.istore_n 1, 1) := by decide +kernel
theorem dX8_takesPair_71 : decode cX8_takesPair 71 = .ok (.bipush 16, 2) := by decide +kernel
theorem dX8_takesPair_73 : decode cX8_takesPair 73 = .ok (.bipush 7, 2) := by decide +kernel
theorem dX8_takesPair_75 : decode cX8_takesPair 75 = .ok (.aload_n 0, 1) := by decide +kernel
theorem dX8_takesPair_76 : decode cX8_takesPair 76 = .ok (.getfield 22, 3) := by decide +kernel
theorem dX8_takesPair_79 : decode cX8_takesPair 79 = .ok (.iconst 1, 1) := by decide +kernel
theorem dX8_takesPair_80 : decode cX8_takesPair 80 = .ok (.iaload, 1) := by decide +kernel
theorem dX8_takesPair_81 : decode cX8_takesPair 81 = .ok (.imul, 1) := by decide +kernel
theorem dX8_takesPair_82 : decode cX8_takesPair 82 = .ok (.iadd, 1) := by decide +kernel
theorem dX8_takesPair_83 : decode cX8_takesPair 83 = .ok (.iconst 5, 1) := by decide +kernel
theorem dX8_takesPair_84 : decode cX8_takesPair 84 = .ok (.iadd, 1) := by decide +kernel
theorem dX8_takesPair_85 : decode cX8_takesPair 85 = .ok (.istore_n 2, 1) := by decide +kernel
theorem dX8_takesPair_86 : decode cX8_takesPair 86 = .ok (.aload_n 0, 1) := by decide +kernel
theorem dX8_takesPair_87 : decode cX8_takesPair 87 = .ok (.getfield 13, 3) := by decide +kernel
theorem dX8_takesPair_90 : decode cX8_takesPair 90 = .ok (.iload_n 1, 1) := by decide +kernel
theorem dX8_takesPair_91 : decode cX8_takesPair 91 = .ok (.iaload, 1) := by decide +kernel
theorem dX8_takesPair_92 : decode cX8_takesPair 92 = .ok (.bipush (-4), 2) := by decide +kernel
theorem dX8_takesPair_94 : decode cX8_takesPair 94 = .ok (.if_icmp .ne 18, 3) := by decide +kernel
theorem dX8_takesPair_97 : decode cX8_takesPair 97 = .ok (.aload_n 0, 1) := by decide +kernel
theorem dX8_takesPair_98 : decode cX8_takesPair 98 = .ok (.getfield 13, 3) := by decide +kernel
theorem dX8_takesPair_101 : decode cX8_takesPair 101 = .ok (.iload_n 2, 1) := by decide +kernel
theorem dX8_takesPair_102 : decode cX8_takesPair 102 = .ok (.iaload, 1) := by decide +kernel
theorem dX8_takesPair_103 : decode cX8_takesPair 103 = .ok (.bipush (-4), 2) := by decide +kernel
theorem dX8_takesPair_105 : decode cX8_takesPair 105 = .ok (.if_icmp .ne 7, 3) := by decide +kernel
theorem dX8_takesPair_108 : decode cX8_takesPair 108 = .ok (.iconst 1, 1) := by decide +kernel
theorem dX8_takesPair_109 : decode cX8_takesPair 109 = .ok (.goto 4, 3) := by decide +kernel
theorem dX8_takesPair_112 : decode cX8_takesPair 112 = .ok (.iconst 0, 1) := by decide +kernel
theorem dX8_takesPair_113 : decode cX8_takesPair 113 = .ok (.istore_n 3, 1) := by decide +kernel
theorem dX8_takesPair_114 : decode cX8_takesPair 114 = .ok (.aload_n 0, 1) := by decide +kernel
theorem dX8_takesPair_115 : decode cX8_takesPair 115 = .ok (.getfield 13, 3) := by decide +kernel
theorem dX8_takesPair_118 : decode cX8_takesPair 118 = .ok (.iload_n 1, 1) := by decide +kernel
theorem dX8_takesPair_119 : decode cX8_takesPair 119 = .ok (.aload_n 0, 1) := by decide +kernel
theorem dX8_takesPair_120 : decode cX8_takesPair 120 = .ok (.getfield 22, 3) := by decide +kernel
theorem dX8_takesPair_123 : decode cX8_takesPair 123 = .ok (.iconst 1, 1) := by decide +kernel
theorem dX8_takesPair_124 : decode cX8_takesPair 124 = .ok (.iaload, 1) := by decide +kernel
theorem dX8_takesPair_125 : decode cX8_takesPair 125 = .ok (.iastore, 1) := by decide +kernel
theorem dX8_takesPair_126 : decode cX8_takesPair 126 = .ok (.aload_n 0, 1) := by decide +kernel
theorem dX8_takesPair_127 : decode cX8_takesPair 127 = .ok (.getfield 13, 3) := by decide +kernel
theorem dX8_takesPair_130 : decode cX8_takesPair 130 = .ok (.iload_n 2, 1) := by decide +kernel
theorem dX8_takesPair_131 : decode cX8_takesPair 131 = .ok (.aload_n 0, 1) := by decide +kernel
theorem dX8_takesPair_132 : decode cX8_takesPair 132 = .ok (.getfield 22, 3) := by decide +kernel
theorem dX8_takesPair_135 : decode cX8_takesPair 135 = .ok (.iconst 0, 1) := by decide +kernel
theorem dX8_takesPair_136 : decode cX8_takesPair 136 = .ok (.iaload, 1) := by decide +kernel
theorem dX8_takesPair_137 : decode cX8_takesPair 137 = .ok (.iastore, 1) := by decide +kernel
theorem dX8_takesPair_138 : decode cX8_takesPair 138 = .ok (.iload_n 3, 1) := by decide +kernel
theorem dX8_takesPair_139 : decode cX8_takesPair 139 = .ok (.ireturn, 1) := by decide +kernel
theorem dX8_takesGap_0 : decode cX8_takesGap 0 = .ok (.aload_n 0, 1) := by decide +kernel
theorem dX8_takesGap_1 : decode cX8_takesGap 1 = .ok (.iconst 1, 1) := by decide +kernel
theorem dX8_takesGap_2 : decode cX8_takesGap 2 = .ok (.iconst 1, 1) := by decide +kernel
theorem dX8_takesGap_3 : decode cX8_takesGap 3 = .ok (.invokevirtual 73, 3) := by decide +kernel
theorem dX8_takesGap_6 : decode cX8_takesGap 6 = .ok (.ifCond .eq 18, 3) := by decide +kernel
theorem dX8_takesGap_9 : decode cX8_takesGap 9 = .ok (.aload_n 0, 1) := by decide +kernel
theorem dX8_takesGap_10 : decode cX8_takesGap 10 = .ok (.getfield 22, 3) := by decide +kernel
theorem dX8_takesGap_13 : decode cX8_takesGap 13 = .ok (.iconst 0, 1) := by decide +kernel
theorem dX8_takesGap_14 : decode cX8_takesGap 14 = .ok (.iaload, 1) := by decide +kernel
theorem dX8_takesGap_15 : decode cX8_takesGap 15 = .ok (.bipush 10, 2) := by decide +kernel
theorem dX8_takesGap_17 : decode cX8_takesGap 17 = .ok (.if_icmp .ge 7, 3) := by decide +kernel
theorem dX8_takesGap_20 : decode cX8_takesGap 20 = .ok (.iconst 1, 1) := by decide +kernel
theorem dX8_takesGap_21 : decode cX8_takesGap 21 = .ok (.goto 4, 3) := by decide +kernel
theorem dX8_takesGap_24 : decode cX8_takesGap 24 = .ok (.iconst 0, 1) := by decide +kernel
theorem dX8_takesGap_25 : decode cX8_takesGap 25 = .ok (.istore_n 1, 1) := by decide +kernel
theorem dX8_takesGap_26 : decode cX8_takesGap 26 = .ok (.aload_n 0, 1) := by decide +kernel
theorem dX8_takesGap_27 : decode cX8_takesGap 27 = .ok (.getfield 13, 3) := by decide +kernel
theorem dX8_takesGap_30 : decode cX8_takesGap 30 = .ok (.iconst 3, 1) := by decide +kernel
theorem dX8_takesGap_31 : decode cX8_takesGap 31 = .ok (.aload_n 0, 1) := by decide +kernel
theorem dX8_takesGap_32 : decode cX8_takesGap 32 = .ok (.getfield 22, 3) := by decide +kernel
theorem dX8_takesGap_35 : decode cX8_takesGap 35 = .ok (.iconst 0, 1) := by decide +kernel
theorem dX8_takesGap_36 : decode cX8_takesGap 36 = .ok (.iaload, 1) := by decide +kernel
theorem dX8_takesGap_37 : decode cX8_takesGap 37 = .ok (.iastore, 1) := by decide +kernel
theorem dX8_takesGap_38 : decode cX8_takesGap 38 = .ok (.iload_n 1, 1) := by decide +kernel
theorem dX8_takesGap_39 : decode cX8_takesGap 39 = .ok (.ireturn, 1) := by decide +kernel
theorem dX8_takesItem_0 : decode cX8_takesItem 0 = .ok (.aload_n 0, 1) := by decide +kernel
theorem dX8_takesItem_1 : decode cX8_takesItem 1 = .ok (.bipush 121, 2) := by decide +kernel
theorem dX8_takesItem_3 : decode cX8_takesItem 3 = .ok (.bipush 97, 2) := by decide +kernel
theorem dX8_takesItem_5 : decode cX8_takesItem 5 = .ok (.bipush 114, 2) := by decide +kernel
theorem dX8_takesItem_7 : decode cX8_takesItem 7 = .ok (.bipush 100, 2) := by decide +kernel
theorem dX8_takesItem_9 : decode cX8_takesItem 9 = .ok (.invokevirtual 76, 3) := by decide +kernel
theorem dX8_takesItem_12 : decode cX8_takesItem 12 = .ok (.ifCond .eq 8, 3) := by decide +kernel
theorem dX8_takesItem_15 : decode cX8_takesItem 15 = .ok (.aload_n 0, 1) := by decide +kernel
theorem dX8_takesItem_16 : decode cX8_takesItem 16 = .ok (.invokevirtual 80, 3) := by decide +kernel
theorem dX8_takesItem_19 : decode cX8_takesItem 19 = .ok (.ireturn, 1) := by decide +kernel
theorem dX8_takesItem_20 : decode cX8_takesItem 20 = .ok (.aload_n 0, 1) := by decide +kernel
theorem dX8_takesItem_21 : decode cX8_takesItem 21 = .ok (.getfield 13, 3) := by decide +kernel
theorem dX8_takesItem_24 : decode cX8_takesItem 24 = .ok (.iconst 0, 1) := by decide +kernel
theorem dX8_takesItem_25 : decode cX8_takesItem 25 = .ok (.iaload, 1) := by decide +kernel
theorem dX8_takesItem_26 : decode cX8_takesItem 26 = .ok (.ifCond .ne 5, 3) := by decide +kernel
theorem dX8_takesItem_29 : decode cX8_takesItem 29 = .ok (.iconst 0, 1) := by decide +kernel
theorem dX8_takesItem_30 : decode cX8_takesItem 30 = .ok (.ireturn, 1) := by decide +kernel
theorem dX8_takesItem_31 : decode cX8_takesItem 31 = .ok (.aload_n 0, 1) := by decide +kernel
theorem dX8_takesItem_32 : decode cX8_takesItem 32 = .ok (.bipush 112, 2) := by decide +kernel
theorem dX8_takesItem_34 : decode cX8_takesItem 34 = .ok (.bipush 97, 2) := by decide +kernel
theorem dX8_takesItem_36 : decode cX8_takesItem 36 = .ok (.bipush 116, 2) := by decide +kernel
theorem dX8_takesItem_38 : decode cX8_takesItem 38 = .ok (.bipush 104, 2) := by decide +kernel
theorem dX8_takesItem_40 : decode cX8_takesItem 40 = .ok (.invokevirtual 76, 3) := by decide +kernel
theorem dX8_takesItem_43 : decode cX8_takesItem 43 = .ok (.ifCond .eq 8, 3) := by decide +kernel
theorem dX8_takesItem_46 : decode cX8_takesItem 46 = .ok (.aload_n 0, 1) := by decide +kernel
theorem dX8_takesItem_47 : decode cX8_takesItem 47 = .ok (.invokevirtual 83, 3) := by decide +kernel
theorem dX8_takesItem_50 : decode cX8_takesItem 50 = .ok (.ireturn, 1) := by decide +kernel
theorem dX8_takesItem_51 : decode cX8_takesItem 51 = .ok (.aload_n 0, 1) := by decide +kernel
theorem dX8_takesItem_52 : decode cX8_takesItem 52 = .ok (.bipush 99, 2) := by decide +kernel
theorem dX8_takesItem_54 : decode cX8_takesItem 54 = .ok (.bipush 111, 2) := by decide +kernel
theorem dX8_takesItem_56 : decode cX8_takesItem 56 = .ok (.bipush 109, 2) := by decide +kernel
theorem dX8_takesItem_58 : decode cX8_takesItem 58 = .ok (.bipush 101, 2) := by decide +kernel
theorem dX8_takesItem_60 : decode cX8_takesItem 60 = .ok (.invokevirtual 76, 3) := by decide +kernel
theorem dX8_takesItem_63 : decode cX8_takesItem 63 = .ok (.ifCond .eq 8, 3) := by decide +kernel
theorem dX8_takesItem_66 : decode cX8_takesItem 66 = .ok (.aload_n 0, 1) := by decide +kernel
theorem dX8_takesItem_67 : decode cX8_takesItem 67 = .ok (.invokevirtual 86, 3) := by decide +kernel
theorem dX8_takesItem_70 : decode cX8_takesItem 70 = .ok (.ireturn, 1) := by decide +kernel
theorem dX8_takesItem_71 : decode cX8_takesItem 71 = .ok (.aload_n 0, 1) := by decide +kernel
theorem dX8_takesItem_72 : decode cX8_takesItem 72 = .ok (.bipush 112, 2) := by decide +kernel
theorem dX8_takesItem_74 : decode cX8_takesItem 74 = .ok (.bipush 97, 2) := by decide +kernel
theorem dX8_takesItem_76 : decode cX8_takesItem 76 = .ok (.bipush 105, 2) := by decide +kernel
theorem dX8_takesItem_78 : decode cX8_takesItem 78 = .ok (.bipush 114, 2) := by decide +kernel
theorem dX8_takesItem_80 : decode cX8_takesItem 80 = .ok (.invokevirtual 76, 3) := by decide +kernel
theorem dX8_takesItem_83 : decode cX8_takesItem 83 = .ok (.ifCond .eq 8, 3) := by decide +kernel
theorem dX8_takesItem_86 : decode cX8_takesItem 86 = .ok (.aload_n 0, 1) := by decide +kernel
theorem dX8_takesItem_87 : decode cX8_takesItem 87 = .ok (.invokevirtual 89, 3) := by decide +kernel
theorem dX8_takesItem_90 : decode cX8_takesItem 90 = .ok (.ireturn, 1) := by decide +kernel
theorem dX8_takesItem_91 : decode cX8_takesItem 91 = .ok (.aload_n 0, 1) := by decide +kernel
theorem dX8_takesItem_92 : decode cX8_takesItem 92 = .ok (.bipush 115, 2) := by decide +kernel
theorem dX8_takesItem_94 : decode cX8_takesItem 94 = .ok (.bipush 112, 2) := by decide +kernel
theorem dX8_takesItem_96 : decode cX8_takesItem 96 = .ok (.bipush 97, 2) := by decide +kernel
theorem dX8_takesItem_98 : decode cX8_takesItem 98 = .ok (.bipush 110, 2) := by decide +kernel
theorem dX8_takesItem_100 : decode cX8_takesItem 100 = .ok (.invokevirtual 76, 3) := by decide +kernel
theorem dX8_takesItem_103 : decode cX8_takesItem 103 = .ok (.ifCond .eq 14, 3) := by decide +kernel
theorem dX8_takesItem_106 : decode cX8_takesItem 106 = .ok (.aload_n 0, 1) := by decide +kernel
theorem dX8_takesItem_107 : decode cX8_takesItem 107 = .ok (.invokevirtual 92, 3) := by decide +kernel
theorem dX8_takesItem_110 : decode cX8_takesItem 110 = .ok (.ifCond .eq 7, 3) := by decide +kernel
theorem dX8_takesItem_113 : decode cX8_takesItem 113 = .ok (.iconst 1, 1) := by decide +kernel
theorem dX8_takesItem_114 : decode cX8_takesItem 114 = .ok (.goto 4, 3) := by decide +kernel
theorem dX8_takesItem_117 : decode cX8_takesItem 117 = .ok (.iconst 0, 1) := by decide +kernel
theorem dX8_takesItem_118 : decode cX8_takesItem 118 = .ok (.ireturn, 1) := by decide +kernel
theorem dX8_reads_0 : decode cX8_reads 0 = .ok (.aload_n 0, 1) := by decide +kernel
theorem dX8_reads_1 : decode cX8_reads 1 = .ok (.invokevirtual 38, 3) := by decide +kernel
theorem dX8_reads_4 : decode cX8_reads 4 = .ok (.aload_n 0, 1) := by decide +kernel
theorem dX8_reads_5 : decode cX8_reads 5 = .ok (.iconst 0, 1) := by decide +kernel
theorem dX8_reads_6 : decode cX8_reads 6 = .ok (.putfield 52, 3) := by decide +kernel
theorem dX8_reads_9 : decode cX8_reads 9 = .ok (.aload_n 0, 1) := by decide +kernel
theorem dX8_reads_10 : decode cX8_reads 10 = .ok (.getfield 52, 3) := by decide +kernel
theorem dX8_reads_13 : decode cX8_reads 13 = .ok (.aload_n 0, 1) := by decide +kernel
theorem dX8_reads_14 : decode cX8_reads 14 = .ok (.getfield 55, 3) := by decide +kernel
theorem dX8_reads_17 : decode cX8_reads 17 = .ok (.if_icmp .ge 20, 3) := by decide +kernel
theorem dX8_reads_20 : decode cX8_reads 20 = .ok (.aload_n 0, 1) := by decide +kernel
theorem dX8_reads_21 : decode cX8_reads 21 = .ok (.getfield 52, 3) := by decide +kernel
theorem dX8_reads_24 : decode cX8_reads 24 = .ok (.istore_n 1, 1) := by decide +kernel
theorem dX8_reads_25 : decode cX8_reads 25 = .ok (.aload_n 0, 1) := by decide +kernel
theorem dX8_reads_26 : decode cX8_reads 26 = .ok (.invokevirtual 95, 3) := by decide +kernel
theorem dX8_reads_29 : decode cX8_reads 29 = .ok (.ifCond .ne 5, 3) := by decide +kernel
theorem dX8_reads_32 : decode cX8_reads 32 = .ok (.iload_n 1, 1) := by decide +kernel
theorem dX8_reads_33 : decode cX8_reads 33 = .ok (.ireturn, 1) := by decide +kernel
theorem dX8_reads_34 : decode cX8_reads 34 = .ok (.goto (-25), 3) := by decide +kernel
theorem dX8_reads_37 : decode cX8_reads 37 = .ok (.bipush (-4), 2) := by decide +kernel
theorem dX8_reads_39 : decode cX8_reads 39 = .ok (.ireturn, 1) := by decide +kernel
theorem dX8_write_0 : decode cX8_write 0 = .ok (.iload_n 1, 1) := by decide +kernel
theorem dX8_write_1 : decode cX8_write 1 = .ok (.bipush 32, 2) := by decide +kernel
theorem dX8_write_3 : decode cX8_write 3 = .ok (.bipush 126, 2) := by decide +kernel
theorem dX8_write_5 : decode cX8_write 5 = .ok (.invokestatic 58, 3) := by decide +kernel
theorem dX8_write_8 : decode cX8_write 8 = .ok (.ifCond .ne 5, 3) := by decide +kernel
theorem dX8_write_11 : decode cX8_write 11 = .ok (.iconst (-1), 1) := by decide +kernel
theorem dX8_write_12 : decode cX8_write 12 = .ok (.ireturn, 1) := by decide +kernel
theorem dX8_write_13 : decode cX8_write 13 = .ok (.aload_n 0, 1) := by decide +kernel
theorem dX8_write_14 : decode cX8_write 14 = .ok (.getfield 55, 3) := by decide +kernel
theorem dX8_write_17 : decode cX8_write 17 = .ok (.sipush 200, 3) := by decide +kernel
theorem dX8_write_20 : decode cX8_write 20 = .ok (.if_icmp .ne 6, 3) := by decide +kernel
theorem dX8_write_23 : decode cX8_write 23 = .ok (.bipush (-3), 2) := by decide +kernel
theorem dX8_write_25 : decode cX8_write 25 = .ok (.ireturn, 1) := by decide +kernel
theorem dX8_write_26 : decode cX8_write 26 = .ok (.aload_n 0, 1) := by decide +kernel
theorem dX8_write_27 : decode cX8_write 27 = .ok (.getfield 19, 3) := by decide +kernel
theorem dX8_write_30 : decode cX8_write 30 = .ok (.aload_n 0, 1) := by decide +kernel
theorem dX8_write_31 : decode cX8_write 31 = .ok (.getfield 55, 3) := by decide +kernel
theorem dX8_write_34 : decode cX8_write 34 = .ok (.iload_n 1, 1) := by decide +kernel
theorem dX8_write_35 : decode cX8_write 35 = .ok (.iastore, 1) := by decide +kernel
theorem dX8_write_36 : decode cX8_write 36 = .ok (.aload_n 0, 1) := by decide +kernel
theorem dX8_write_37 : decode cX8_write 37 = .ok (.dup, 1) := by decide +kernel
theorem dX8_write_38 : decode cX8_write 38 = .ok (.getfield 55, 3) := by decide +kernel
theorem dX8_write_41 : decode cX8_write 41 = .ok (.iconst 1, 1) := by decide +kernel
theorem dX8_write_42 : decode cX8_write 42 = .ok (.iadd, 1) := by decide +kernel
theorem dX8_write_43 : decode cX8_write 43 = .ok (.putfield 55, 3) := by decide +kernel
theorem dX8_write_46 : decode cX8_write 46 = .ok (.aload_n 0, 1) := by decide +kernel
theorem dX8_write_47 : decode cX8_write 47 = .ok (.getfield 55, 3) := by decide +kernel
theorem dX8_write_50 : decode cX8_write 50 = .ok (.ireturn, 1) := by decide +kernel
theorem dX8_wipe_0 : decode cX8_wipe 0 = .ok (.aload_n 0, 1) := by decide +kernel
theorem dX8_wipe_1 : decode cX8_wipe 1 = .ok (.getfield 55, 3) := by decide +kernel
theorem dX8_wipe_4 : decode cX8_wipe 4 = .ok (.istore_n 1, 1) := by decide +kernel
theorem dX8_wipe_5 : decode cX8_wipe 5 = .ok (.aload_n 0, 1) := by decide +kernel
theorem dX8_wipe_6 : decode cX8_wipe 6 = .ok (.iconst 0, 1) := by decide +kernel
theorem dX8_wipe_7 : decode cX8_wipe 7 = .ok (.putfield 55, 3) := by decide +kernel
theorem dX8_wipe_10 : decode cX8_wipe 10 = .ok (.iload_n 1, 1) := by decide +kernel
theorem dX8_wipe_11 : decode cX8_wipe 11 = .ok (.ireturn, 1) := by decide +kernel
theorem dX8_fault_0 : decode cX8_fault 0 = .ok (.aload_n 0, 1) := by decide +kernel
theorem dX8_fault_1 : decode cX8_fault 1 = .ok (.invokevirtual 98, 3) := by decide +kernel
theorem dX8_fault_4 : decode cX8_fault 4 = .ok (.ireturn, 1) := by decide +kernel
theorem dX8_lay_0 : decode cX8_lay 0 = .ok (.aload_n 0, 1) := by decide +kernel
theorem dX8_lay_1 : decode cX8_lay 1 = .ok (.invokevirtual 98, 3) := by decide +kernel
theorem dX8_lay_4 : decode cX8_lay 4 = .ok (.bipush (-4), 2) := by decide +kernel
theorem dX8_lay_6 : decode cX8_lay 6 = .ok (.if_icmp .ne 12, 3) := by decide +kernel
theorem dX8_lay_9 : decode cX8_lay 9 = .ok (.aload_n 0, 1) := by decide +kernel
theorem dX8_lay_10 : decode cX8_lay 10 = .ok (.getfield 13, 3) := by decide +kernel
theorem dX8_lay_13 : decode cX8_lay 13 = .ok (.iconst 0, 1) := by decide +kernel
theorem dX8_lay_14 : decode cX8_lay 14 = .ok (.iaload, 1) := by decide +kernel
theorem dX8_lay_15 : decode cX8_lay 15 = .ok (.ifCond .ne 6, 3) := by decide +kernel
theorem dX8_lay_18 : decode cX8_lay 18 = .ok (.bipush (-2), 2) := by decide +kernel
theorem dX8_lay_20 : decode cX8_lay 20 = .ok (.ireturn, 1) := by decide +kernel
theorem dX8_lay_21 : decode cX8_lay 21 = .ok (.aload_n 0, 1) := by decide +kernel
theorem dX8_lay_22 : decode cX8_lay 22 = .ok (.invokevirtual 45, 3) := by decide +kernel
theorem dX8_lay_25 : decode cX8_lay 25 = .ok (.aload_n 0, 1) := by decide +kernel
theorem dX8_lay_26 : decode cX8_lay 26 = .ok (.getfield 7, 3) := by decide +kernel
theorem dX8_lay_29 : decode cX8_lay 29 = .ok (.iconst 2, 1) := by decide +kernel
theorem dX8_lay_30 : decode cX8_lay 30 = .ok (.iaload, 1) := by decide +kernel
theorem dX8_lay_31 : decode cX8_lay 31 = .ok (.ireturn, 1) := by decide +kernel
theorem dX8_keeps_0 : decode cX8_keeps 0 = .ok (.aload_n 0, 1) := by decide +kernel
theorem dX8_keeps_1 : decode cX8_keeps 1 = .ok (.getfield 48, 3) := by decide +kernel
theorem dX8_keeps_4 : decode cX8_keeps 4 = .ok (.bipush 6, 2) := by decide +kernel
theorem dX8_keeps_6 : decode cX8_keeps 6 = .ok (.if_icmp .ne 43, 3) := by decide +kernel
theorem dX8_keeps_9 : decode cX8_keeps 9 = .ok (.iconst 0, 1) := by decide +kernel
theorem dX8_keeps_10 : decode cX8_keeps 10 = .ok (.istore_n 1, 1) := by decide +kernel
theorem dX8_keeps_11 : decode cX8_keeps 11 = .ok (.iload_n 1, 1) := by decide +kernel
theorem dX8_keeps_12 : decode cX8_keeps 12 = .ok (.sipush 325, 3) := by decide +kernel
theorem dX8_keeps_15 : decode cX8_keeps 15 = .ok (.if_icmp .ge 24, 3) := by decide +kernel
theorem dX8_keeps_18 : decode cX8_keeps 18 = .ok (.aload_n 0, 1) := by decide +kernel
theorem dX8_keeps_19 : decode cX8_keeps 19 = .ok (.getfield 16, 3) := by decide +kernel
theorem dX8_keeps_22 : decode cX8_keeps 22 = .ok (.iload_n 1, 1) := by decide +kernel
theorem dX8_keeps_23 : decode cX8_keeps 23 = .ok (.aload_n 0, 1) := by decide +kernel
theorem dX8_keeps_24 : decode cX8_keeps 24 = .ok (.getfield 16, 3) := by decide +kernel
theorem dX8_keeps_27 : decode cX8_keeps 27 = .ok (.iload_n 1, 1) := by decide +kernel
theorem dX8_keeps_28 : decode cX8_keeps 28 = .ok (.bipush 65, 2) := by decide +kernel
theorem dX8_keeps_30 : decode cX8_keeps 30 = .ok (.iadd, 1) := by decide +kernel
theorem dX8_keeps_31 : decode cX8_keeps 31 = .ok (.iaload, 1) := by decide +kernel
theorem dX8_keeps_32 : decode cX8_keeps 32 = .ok (.iastore, 1) := by decide +kernel
theorem dX8_keeps_33 : decode cX8_keeps 33 = .ok (.iinc 1 1, 3) := by decide +kernel
theorem dX8_keeps_36 : decode cX8_keeps 36 = .ok (.goto (-25), 3) := by decide +kernel
theorem dX8_keeps_39 : decode cX8_keeps 39 = .ok (.aload_n 0, 1) := by decide +kernel
theorem dX8_keeps_40 : decode cX8_keeps 40 = .ok (.dup, 1) := by decide +kernel
theorem dX8_keeps_41 : decode cX8_keeps 41 = .ok (.getfield 48, 3) := by decide +kernel
theorem dX8_keeps_44 : decode cX8_keeps 44 = .ok (.iconst 1, 1) := by decide +kernel
theorem dX8_keeps_45 : decode cX8_keeps 45 = .ok (.isub, 1) := by decide +kernel
theorem dX8_keeps_46 : decode cX8_keeps 46 = .ok (.putfield 48, 3) := by decide +kernel
theorem dX8_keeps_49 : decode cX8_keeps 49 = .ok (.iconst 0, 1) := by decide +kernel
theorem dX8_keeps_50 : decode cX8_keeps 50 = .ok (.istore_n 1, 1) := by decide +kernel
theorem dX8_keeps_51 : decode cX8_keeps 51 = .ok (.iload_n 1, 1) := by decide +kernel
theorem dX8_keeps_52 : decode cX8_keeps 52 = .ok (.bipush 65, 2) := by decide +kernel
theorem dX8_keeps_54 : decode cX8_keeps 54 = .ok (.if_icmp .ge 29, 3) := by decide +kernel
theorem dX8_keeps_57 : decode cX8_keeps 57 = .ok (.aload_n 0, 1) := by decide +kernel
theorem dX8_keeps_58 : decode cX8_keeps 58 = .ok (.getfield 16, 3) := by decide +kernel
theorem dX8_keeps_61 : decode cX8_keeps 61 = .ok (.bipush 65, 2) := by decide +kernel
theorem dX8_keeps_63 : decode cX8_keeps 63 = .ok (.aload_n 0, 1) := by decide +kernel
theorem dX8_keeps_64 : decode cX8_keeps 64 = .ok (.getfield 48, 3) := by decide +kernel
theorem dX8_keeps_67 : decode cX8_keeps 67 = .ok (.imul, 1) := by decide +kernel
theorem dX8_keeps_68 : decode cX8_keeps 68 = .ok (.iload_n 1, 1) := by decide +kernel
theorem dX8_keeps_69 : decode cX8_keeps 69 = .ok (.iadd, 1) := by decide +kernel
theorem dX8_keeps_70 : decode cX8_keeps 70 = .ok (.aload_n 0, 1) := by decide +kernel
theorem dX8_keeps_71 : decode cX8_keeps 71 = .ok (.getfield 7, 3) := by decide +kernel
theorem dX8_keeps_74 : decode cX8_keeps 74 = .ok (.iload_n 1, 1) := by decide +kernel
theorem dX8_keeps_75 : decode cX8_keeps 75 = .ok (.iaload, 1) := by decide +kernel
theorem dX8_keeps_76 : decode cX8_keeps 76 = .ok (.iastore, 1) := by decide +kernel
theorem dX8_keeps_77 : decode cX8_keeps 77 = .ok (.iinc 1 1, 3) := by decide +kernel
theorem dX8_keeps_80 : decode cX8_keeps 80 = .ok (.goto (-29), 3) := by decide +kernel
theorem dX8_keeps_83 : decode cX8_keeps 83 = .ok (.aload_n 0, 1) := by decide +kernel
theorem dX8_keeps_84 : decode cX8_keeps 84 = .ok (.dup, 1) := by decide +kernel
theorem dX8_keeps_85 : decode cX8_keeps 85 = .ok (.getfield 48, 3) := by decide +kernel
theorem dX8_keeps_88 : decode cX8_keeps 88 = .ok (.iconst 1, 1) := by decide +kernel
theorem dX8_keeps_89 : decode cX8_keeps 89 = .ok (.iadd, 1) := by decide +kernel
theorem dX8_keeps_90 : decode cX8_keeps 90 = .ok (.putfield 48, 3) := by decide +kernel
theorem dX8_keeps_93 : decode cX8_keeps 93 = .ok (.return_, 1) := by decide +kernel
theorem dX8_undo_0 : decode cX8_undo 0 = .ok (.aload_n 0, 1) := by decide +kernel
theorem dX8_undo_1 : decode cX8_undo 1 = .ok (.getfield 48, 3) := by decide +kernel
theorem dX8_undo_4 : decode cX8_undo 4 = .ok (.ifCond .ne 6, 3) := by decide +kernel
theorem dX8_undo_7 : decode cX8_undo 7 = .ok (.bipush (-2), 2) := by decide +kernel
theorem dX8_undo_9 : decode cX8_undo 9 = .ok (.ireturn, 1) := by decide +kernel
theorem dX8_undo_10 : decode cX8_undo 10 = .ok (.aload_n 0, 1) := by decide +kernel
theorem dX8_undo_11 : decode cX8_undo 11 = .ok (.dup, 1) := by decide +kernel
theorem dX8_undo_12 : decode cX8_undo 12 = .ok (.getfield 48, 3) := by decide +kernel
theorem dX8_undo_15 : decode cX8_undo 15 = .ok (.iconst 1, 1) := by decide +kernel
theorem dX8_undo_16 : decode cX8_undo 16 = .ok (.isub, 1) := by decide +kernel
theorem dX8_undo_17 : decode cX8_undo 17 = .ok (.putfield 48, 3) := by decide +kernel
theorem dX8_undo_20 : decode cX8_undo 20 = .ok (.iconst 0, 1) := by decide +kernel
theorem dX8_undo_21 : decode cX8_undo 21 = .ok (.istore_n 1, 1) := by decide +kernel
theorem dX8_undo_22 : decode cX8_undo 22 = .ok (.iload_n 1, 1) := by decide +kernel
theorem dX8_undo_23 : decode cX8_undo 23 = .ok (.bipush 65, 2) := by decide +kernel
theorem dX8_undo_25 : decode cX8_undo 25 = .ok (.if_icmp .ge 29, 3) := by decide +kernel
theorem dX8_undo_28 : decode cX8_undo 28 = .ok (.aload_n 0, 1) := by decide +kernel
theorem dX8_undo_29 : decode cX8_undo 29 = .ok (.getfield 7, 3) := by decide +kernel
theorem dX8_undo_32 : decode cX8_undo 32 = .ok (.iload_n 1, 1) := by decide +kernel
theorem dX8_undo_33 : decode cX8_undo 33 = .ok (.aload_n 0, 1) := by decide +kernel
theorem dX8_undo_34 : decode cX8_undo 34 = .ok (.getfield 16, 3) := by decide +kernel
theorem dX8_undo_37 : decode cX8_undo 37 = .ok (.bipush 65, 2) := by decide +kernel
theorem dX8_undo_39 : decode cX8_undo 39 = .ok (.aload_n 0, 1) := by decide +kernel
theorem dX8_undo_40 : decode cX8_undo 40 = .ok (.getfield 48, 3) := by decide +kernel
theorem dX8_undo_43 : decode cX8_undo 43 = .ok (.imul, 1) := by decide +kernel
theorem dX8_undo_44 : decode cX8_undo 44 = .ok (.iload_n 1, 1) := by decide +kernel
theorem dX8_undo_45 : decode cX8_undo 45 = .ok (.iadd, 1) := by decide +kernel
theorem dX8_undo_46 : decode cX8_undo 46 = .ok (.iaload, 1) := by decide +kernel
theorem dX8_undo_47 : decode cX8_undo 47 = .ok (.iastore, 1) := by decide +kernel
theorem dX8_undo_48 : decode cX8_undo 48 = .ok (.iinc 1 1, 3) := by decide +kernel
theorem dX8_undo_51 : decode cX8_undo 51 = .ok (.goto (-29), 3) := by decide +kernel
theorem dX8_undo_54 : decode cX8_undo 54 = .ok (.aload_n 0, 1) := by decide +kernel
theorem dX8_undo_55 : decode cX8_undo 55 = .ok (.getfield 48, 3) := by decide +kernel
theorem dX8_undo_58 : decode cX8_undo 58 = .ok (.ireturn, 1) := by decide +kernel
theorem dX8_isTrack_0 : decode cX8_isTrack 0 = .ok (.iload_n 1, 1) := by decide +kernel
theorem dX8_isTrack_1 : decode cX8_isTrack 1 = .ok (.iconst 0, 1) := by decide +kernel
theorem dX8_isTrack_2 : decode cX8_isTrack 2 = .ok (.aload_n 0, 1) := by decide +kernel
theorem dX8_isTrack_3 : decode cX8_isTrack 3 = .ok (.getfield 7, 3) := by decide +kernel
theorem dX8_isTrack_6 : decode cX8_isTrack 6 = .ok (.iconst 1, 1) := by decide +kernel
theorem dX8_isTrack_7 : decode cX8_isTrack 7 = .ok (.iaload, 1) := by decide +kernel
theorem dX8_isTrack_8 : decode cX8_isTrack 8 = .ok (.iconst 1, 1) := by decide +kernel
theorem dX8_isTrack_9 : decode cX8_isTrack 9 = .ok (.isub, 1) := by decide +kernel
theorem dX8_isTrack_10 : decode cX8_isTrack 10 = .ok (.invokestatic 58, 3) := by decide +kernel
theorem dX8_isTrack_13 : decode cX8_isTrack 13 = .ok (.ireturn, 1) := by decide +kernel
theorem dX8_isTrain_0 : decode cX8_isTrain 0 = .ok (.iload_n 1, 1) := by decide +kernel
theorem dX8_isTrain_1 : decode cX8_isTrain 1 = .ok (.iconst 0, 1) := by decide +kernel
theorem dX8_isTrain_2 : decode cX8_isTrain 2 = .ok (.aload_n 0, 1) := by decide +kernel
theorem dX8_isTrain_3 : decode cX8_isTrain 3 = .ok (.getfield 7, 3) := by decide +kernel
theorem dX8_isTrain_6 : decode cX8_isTrain 6 = .ok (.iconst 2, 1) := by decide +kernel
theorem dX8_isTrain_7 : decode cX8_isTrain 7 = .ok (.iaload, 1) := by decide +kernel
theorem dX8_isTrain_8 : decode cX8_isTrain 8 = .ok (.iconst 1, 1) := by decide +kernel
theorem dX8_isTrain_9 : decode cX8_isTrain 9 = .ok (.isub, 1) := by decide +kernel
theorem dX8_isTrain_10 : decode cX8_isTrain 10 = .ok (.invokestatic 58, 3) := by decide +kernel
theorem dX8_isTrain_13 : decode cX8_isTrain 13 = .ok (.ireturn, 1) := by decide +kernel
theorem dX8_of_0 : decode cX8_of 0 = .ok (.aload_n 0, 1) := by decide +kernel
theorem dX8_of_1 : decode cX8_of 1 = .ok (.getfield 7, 3) := by decide +kernel
theorem dX8_of_4 : decode cX8_of 4 = .ok (.bipush 16, 2) := by decide +kernel
theorem dX8_of_6 : decode cX8_of 6 = .ok (.bipush 7, 2) := by decide +kernel
theorem dX8_of_8 : decode cX8_of 8 = .ok (.iload_n 1, 1) := by decide +kernel
theorem dX8_of_9 : decode cX8_of 9 = .ok (.imul, 1) := by decide +kernel
theorem dX8_of_10 : decode cX8_of 10 = .ok (.iadd, 1) := by decide +kernel
theorem dX8_of_11 : decode cX8_of 11 = .ok (.iload_n 2, 1) := by decide +kernel
theorem dX8_of_12 : decode cX8_of 12 = .ok (.iadd, 1) := by decide +kernel
theorem dX8_of_13 : decode cX8_of 13 = .ok (.iaload, 1) := by decide +kernel
theorem dX8_of_14 : decode cX8_of 14 = .ok (.ireturn, 1) := by decide +kernel
theorem dX8_becomes_0 : decode cX8_becomes 0 = .ok (.aload_n 0, 1) := by decide +kernel
theorem dX8_becomes_1 : decode cX8_becomes 1 = .ok (.getfield 7, 3) := by decide +kernel
theorem dX8_becomes_4 : decode cX8_becomes 4 = .ok (.bipush 16, 2) := by decide +kernel
theorem dX8_becomes_6 : decode cX8_becomes 6 = .ok (.bipush 7, 2) := by decide +kernel
theorem dX8_becomes_8 : decode cX8_becomes 8 = .ok (.iload_n 1, 1) := by decide +kernel
theorem dX8_becomes_9 : decode cX8_becomes 9 = .ok (.imul, 1) := by decide +kernel
theorem dX8_becomes_10 : decode cX8_becomes 10 = .ok (.iadd, 1) := by decide +kernel
theorem dX8_becomes_11 : decode cX8_becomes 11 = .ok (.iload_n 2, 1) := by decide +kernel
theorem dX8_becomes_12 : decode cX8_becomes 12 = .ok (.iadd, 1) := by decide +kernel
theorem dX8_becomes_13 : decode cX8_becomes 13 = .ok (.iload_n 3, 1) := by decide +kernel
theorem dX8_becomes_14 : decode cX8_becomes 14 = .ok (.iastore, 1) := by decide +kernel
theorem dX8_becomes_15 : decode cX8_becomes 15 = .ok (.return_, 1) := by decide +kernel
theorem dX8_routeOf_0 : decode cX8_routeOf 0 = .ok (.aload_n 0, 1) := by decide +kernel
theorem dX8_routeOf_1 : decode cX8_routeOf 1 = .ok (.getfield 7, 3) := by decide +kernel
theorem dX8_routeOf_4 : decode cX8_routeOf 4 = .ok (.iconst 4, 1) := by decide +kernel
theorem dX8_routeOf_5 : decode cX8_routeOf 5 = .ok (.iconst 4, 1) := by decide +kernel
theorem dX8_routeOf_6 : decode cX8_routeOf 6 = .ok (.iload_n 1, 1) := by decide +kernel
theorem dX8_routeOf_7 : decode cX8_routeOf 7 = .ok (.imul, 1) := by decide +kernel
theorem dX8_routeOf_8 : decode cX8_routeOf 8 = .ok (.iadd, 1) := by decide +kernel
theorem dX8_routeOf_9 : decode cX8_routeOf 9 = .ok (.iload_n 2, 1) := by decide +kernel
theorem dX8_routeOf_10 : decode cX8_routeOf 10 = .ok (.iadd, 1) := by decide +kernel
theorem dX8_routeOf_11 : decode cX8_routeOf 11 = .ok (.iaload, 1) := by decide +kernel
theorem dX8_routeOf_12 : decode cX8_routeOf 12 = .ok (.ireturn, 1) := by decide +kernel
theorem dX8_route_0 : decode cX8_route 0 = .ok (.iload_n 1, 1) := by decide +kernel
theorem dX8_route_1 : decode cX8_route 1 = .ok (.iconst 0, 1) := by decide +kernel
theorem dX8_route_2 : decode cX8_route 2 = .ok (.aload_n 0, 1) := by decide +kernel
theorem dX8_route_3 : decode cX8_route 3 = .ok (.getfield 7, 3) := by decide +kernel
theorem dX8_route_6 : decode cX8_route 6 = .ok (.iconst 0, 1) := by decide +kernel
theorem dX8_route_7 : decode cX8_route 7 = .ok (.iaload, 1) := by decide +kernel
theorem dX8_route_8 : decode cX8_route 8 = .ok (.iconst 1, 1) := by decide +kernel
theorem dX8_route_9 : decode cX8_route 9 = .ok (.isub, 1) := by decide +kernel
theorem dX8_route_10 : decode cX8_route 10 = .ok (.invokestatic 58, 3) := by decide +kernel
theorem dX8_route_13 : decode cX8_route 13 = .ok (.ifCond .eq 20, 3) := by decide +kernel
theorem dX8_route_16 : decode cX8_route 16 = .ok (.aload_n 0, 1) := by decide +kernel
theorem dX8_route_17 : decode cX8_route 17 = .ok (.iload_n 2, 1) := by decide +kernel
theorem dX8_route_18 : decode cX8_route 18 = .ok (.invokevirtual 102, 3) := by decide +kernel
theorem dX8_route_21 : decode cX8_route 21 = .ok (.ifCond .eq 12, 3) := by decide +kernel
theorem dX8_route_24 : decode cX8_route 24 = .ok (.aload_n 0, 1) := by decide +kernel
theorem dX8_route_25 : decode cX8_route 25 = .ok (.iload_n 1, 1) := by decide +kernel
theorem dX8_route_26 : decode cX8_route 26 = .ok (.iload_n 2, 1) := by decide +kernel
theorem dX8_route_27 : decode cX8_route 27 = .ok (.invokevirtual 106, 3) := by decide +kernel
theorem dX8_route_30 : decode cX8_route 30 = .ok (.goto 4, 3) := by decide +kernel
theorem dX8_route_33 : decode cX8_route 33 = .ok (.iconst (-1), 1) := by decide +kernel
theorem dX8_route_34 : decode cX8_route 34 = .ok (.ireturn, 1) := by decide +kernel
theorem dX8_wayIn_0 : decode cX8_wayIn 0 = .ok (.aload_n 0, 1) := by decide +kernel
theorem dX8_wayIn_1 : decode cX8_wayIn 1 = .ok (.aload_n 0, 1) := by decide +kernel
theorem dX8_wayIn_2 : decode cX8_wayIn 2 = .ok (.iload_n 1, 1) := by decide +kernel
theorem dX8_wayIn_3 : decode cX8_wayIn 3 = .ok (.iconst 0, 1) := by decide +kernel
theorem dX8_wayIn_4 : decode cX8_wayIn 4 = .ok (.invokevirtual 110, 3) := by decide +kernel
theorem dX8_wayIn_7 : decode cX8_wayIn 7 = .ok (.iload_n 2, 1) := by decide +kernel
theorem dX8_wayIn_8 : decode cX8_wayIn 8 = .ok (.invokevirtual 106, 3) := by decide +kernel
theorem dX8_wayIn_11 : decode cX8_wayIn 11 = .ok (.ireturn, 1) := by decide +kernel
theorem dX8_wayOut_0 : decode cX8_wayOut 0 = .ok (.aload_n 0, 1) := by decide +kernel
theorem dX8_wayOut_1 : decode cX8_wayOut 1 = .ok (.aload_n 0, 1) := by decide +kernel
theorem dX8_wayOut_2 : decode cX8_wayOut 2 = .ok (.iload_n 1, 1) := by decide +kernel
theorem dX8_wayOut_3 : decode cX8_wayOut 3 = .ok (.iconst 1, 1) := by decide +kernel
theorem dX8_wayOut_4 : decode cX8_wayOut 4 = .ok (.invokevirtual 110, 3) := by decide +kernel
theorem dX8_wayOut_7 : decode cX8_wayOut 7 = .ok (.iload_n 2, 1) := by decide +kernel
theorem dX8_wayOut_8 : decode cX8_wayOut 8 = .ok (.invokevirtual 106, 3) := by decide +kernel
theorem dX8_wayOut_11 : decode cX8_wayOut 11 = .ok (.ireturn, 1) := by decide +kernel
theorem dX8_doesFit_0 : decode cX8_doesFit 0 = .ok (.aload_n 0, 1) := by decide +kernel
theorem dX8_doesFit_1 : decode cX8_doesFit 1 = .ok (.iload_n 1, 1) := by decide +kernel
theorem dX8_doesFit_2 : decode cX8_doesFit 2 = .ok (.iload_n 2, 1) := by decide +kernel
theorem dX8_doesFit_3 : decode cX8_doesFit 3 = .ok (.invokevirtual 113, 3) := by decide +kernel
theorem dX8_doesFit_6 : decode cX8_doesFit 6 = .ok (.bipush (-4), 2) := by decide +kernel
theorem dX8_doesFit_8 : decode cX8_doesFit 8 = .ok (.if_icmp .eq 18, 3) := by decide +kernel
theorem dX8_doesFit_11 : decode cX8_doesFit 11 = .ok (.aload_n 0, 1) := by decide +kernel
theorem dX8_doesFit_12 : decode cX8_doesFit 12 = .ok (.iload_n 1, 1) := by decide +kernel
theorem dX8_doesFit_13 : decode cX8_doesFit 13 = .ok (.iload_n 2, 1) := by decide +kernel
theorem dX8_doesFit_14 : decode cX8_doesFit 14 = .ok (.invokevirtual 116, 3) := by decide +kernel
theorem dX8_doesFit_17 : decode cX8_doesFit 17 = .ok (.bipush (-4), 2) := by decide +kernel
theorem dX8_doesFit_19 : decode cX8_doesFit 19 = .ok (.if_icmp .eq 7, 3) := by decide +kernel
theorem dX8_doesFit_22 : decode cX8_doesFit 22 = .ok (.iconst 1, 1) := by decide +kernel
theorem dX8_doesFit_23 : decode cX8_doesFit 23 = .ok (.goto 4, 3) := by decide +kernel
theorem dX8_doesFit_26 : decode cX8_doesFit 26 = .ok (.iconst 0, 1) := by decide +kernel
theorem dX8_doesFit_27 : decode cX8_doesFit 27 = .ok (.ireturn, 1) := by decide +kernel
theorem dX8_meet_0 : decode cX8_meet 0 = .ok (.iload_n 0, 1) := by decide +kernel
theorem dX8_meet_1 : decode cX8_meet 1 = .ok (.iload_n 1, 1) := by decide +kernel
theorem dX8_meet_2 : decode cX8_meet 2 = .ok (.isub, 1) := by decide +kernel
theorem dX8_meet_3 : decode cX8_meet 3 = .ok (.iconst 2, 1) := by decide +kernel
theorem dX8_meet_4 : decode cX8_meet 4 = .ok (.if_icmp .ge 14, 3) := by decide +kernel
theorem dX8_meet_7 : decode cX8_meet 7 = .ok (.iload_n 1, 1) := by decide +kernel
theorem dX8_meet_8 : decode cX8_meet 8 = .ok (.iload_n 0, 1) := by decide +kernel
theorem dX8_meet_9 : decode cX8_meet 9 = .ok (.isub, 1) := by decide +kernel
theorem dX8_meet_10 : decode cX8_meet 10 = .ok (.iconst 2, 1) := by decide +kernel
theorem dX8_meet_11 : decode cX8_meet 11 = .ok (.if_icmp .ge 7, 3) := by decide +kernel
theorem dX8_meet_14 : decode cX8_meet 14 = .ok (.iconst 1, 1) := by decide +kernel
theorem dX8_meet_15 : decode cX8_meet 15 = .ok (.goto 4, 3) := by decide +kernel
theorem dX8_meet_18 : decode cX8_meet 18 = .ok (.iconst 0, 1) := by decide +kernel
theorem dX8_meet_19 : decode cX8_meet 19 = .ok (.ireturn, 1) := by decide +kernel
theorem dX8_clashOf_0 : decode cX8_clashOf 0 = .ok (.iload_n 2, 1) := by decide +kernel
theorem dX8_clashOf_1 : decode cX8_clashOf 1 = .ok (.iload 4, 2) := by decide +kernel
theorem dX8_clashOf_3 : decode cX8_clashOf 3 = .ok (.if_icmp .ne 15, 3) := by decide +kernel
theorem dX8_clashOf_6 : decode cX8_clashOf 6 = .ok (.aload_n 0, 1) := by decide +kernel
theorem dX8_clashOf_7 : decode cX8_clashOf 7 = .ok (.iload_n 1, 1) := by decide +kernel
theorem dX8_clashOf_8 : decode cX8_clashOf 8 = .ok (.iconst 5, 1) := by decide +kernel
theorem dX8_clashOf_9 : decode cX8_clashOf 9 = .ok (.invokevirtual 110, 3) := by decide +kernel
theorem dX8_clashOf_12 : decode cX8_clashOf 12 = .ok (.iload_n 3, 1) := by decide +kernel
theorem dX8_clashOf_13 : decode cX8_clashOf 13 = .ok (.if_icmp .ne 5, 3) := by decide +kernel
theorem dX8_clashOf_16 : decode cX8_clashOf 16 = .ok (.iconst 0, 1) := by decide +kernel
theorem dX8_clashOf_17 : decode cX8_clashOf 17 = .ok (.ireturn, 1) := by decide +kernel
theorem dX8_clashOf_18 : decode cX8_clashOf 18 = .ok (.aload_n 0, 1) := by decide +kernel
theorem dX8_clashOf_19 : decode cX8_clashOf 19 = .ok (.getfield 7, 3) := by decide +kernel
theorem dX8_clashOf_22 : decode cX8_clashOf 22 = .ok (.iconst 3, 1) := by decide +kernel
theorem dX8_clashOf_23 : decode cX8_clashOf 23 = .ok (.iaload, 1) := by decide +kernel
theorem dX8_clashOf_24 : decode cX8_clashOf 24 = .ok (.iconst 1, 1) := by decide +kernel
theorem dX8_clashOf_25 : decode cX8_clashOf 25 = .ok (.if_icmp .ge 7, 3) := by decide +kernel
theorem dX8_clashOf_28 : decode cX8_clashOf 28 = .ok (.iconst 1, 1) := by decide +kernel
theorem dX8_clashOf_29 : decode cX8_clashOf 29 = .ok (.goto 9, 3) := by decide +kernel
theorem dX8_clashOf_32 : decode cX8_clashOf 32 = .ok (.aload_n 0, 1) := by decide +kernel
theorem dX8_clashOf_33 : decode cX8_clashOf 33 = .ok (.getfield 7, 3) := by decide +kernel
theorem dX8_clashOf_36 : decode cX8_clashOf 36 = .ok (.iconst 3, 1) := by decide +kernel
theorem dX8_clashOf_37 : decode cX8_clashOf 37 = .ok (.iaload, 1) := by decide +kernel
theorem dX8_clashOf_38 : decode cX8_clashOf 38 = .ok (.istore 5, 2) := by decide +kernel
theorem dX8_clashOf_40 : decode cX8_clashOf 40 = .ok (.aload_n 0, 1) := by decide +kernel
theorem dX8_clashOf_41 : decode cX8_clashOf 41 = .ok (.iload_n 3, 1) := by decide +kernel
theorem dX8_clashOf_42 : decode cX8_clashOf 42 = .ok (.iconst 2, 1) := by decide +kernel
theorem dX8_clashOf_43 : decode cX8_clashOf 43 = .ok (.invokevirtual 110, 3) := by decide +kernel
theorem dX8_clashOf_46 : decode cX8_clashOf 46 = .ok (.aload_n 0, 1) := by decide +kernel
theorem dX8_clashOf_47 : decode cX8_clashOf 47 = .ok (.iload_n 1, 1) := by decide +kernel
theorem dX8_clashOf_48 : decode cX8_clashOf 48 = .ok (.iconst 3, 1) := by decide +kernel
theorem dX8_clashOf_49 : decode cX8_clashOf 49 = .ok (.invokevirtual 110, 3) := by decide +kernel
theorem dX8_clashOf_52 : decode cX8_clashOf 52 = .ok (.iload 5, 2) := by decide +kernel
theorem dX8_clashOf_54 : decode cX8_clashOf 54 = .ok (.iadd, 1) := by decide +kernel
theorem dX8_clashOf_55 : decode cX8_clashOf 55 = .ok (.if_icmp .ge 21, 3) := by decide +kernel
theorem dX8_clashOf_58 : decode cX8_clashOf 58 = .ok (.aload_n 0, 1) := by decide +kernel
theorem dX8_clashOf_59 : decode cX8_clashOf 59 = .ok (.iload_n 1, 1) := by decide +kernel
theorem dX8_clashOf_60 : decode cX8_clashOf 60 = .ok (.iconst 2, 1) := by decide +kernel
theorem dX8_clashOf_61 : decode cX8_clashOf 61 = .ok (.invokevirtual 110, 3) := by decide +kernel
theorem dX8_clashOf_64 : decode cX8_clashOf 64 = .ok (.aload_n 0, 1) := by decide +kernel
theorem dX8_clashOf_65 : decode cX8_clashOf 65 = .ok (.iload_n 3, 1) := by decide +kernel
theorem dX8_clashOf_66 : decode cX8_clashOf 66 = .ok (.iconst 3, 1) := by decide +kernel
theorem dX8_clashOf_67 : decode cX8_clashOf 67 = .ok (.invokevirtual 110, 3) := by decide +kernel
theorem dX8_clashOf_70 : decode cX8_clashOf 70 = .ok (.iload 5, 2) := by decide +kernel
theorem dX8_clashOf_72 : decode cX8_clashOf 72 = .ok (.iadd, 1) := by decide +kernel
theorem dX8_clashOf_73 : decode cX8_clashOf 73 = .ok (.if_icmp .lt 7, 3) := by decide +kernel
theorem dX8_clashOf_76 : decode cX8_clashOf 76 = .ok (.iconst 1, 1) := by decide +kernel
theorem dX8_clashOf_77 : decode cX8_clashOf 77 = .ok (.goto 4, 3) := by decide +kernel
theorem dX8_clashOf_80 : decode cX8_clashOf 80 = .ok (.iconst 0, 1) := by decide +kernel
theorem dX8_clashOf_81 : decode cX8_clashOf 81 = .ok (.istore 6, 2) := by decide +kernel
theorem dX8_clashOf_83 : decode cX8_clashOf 83 = .ok (.aload_n 0, 1) := by decide +kernel
theorem dX8_clashOf_84 : decode cX8_clashOf 84 = .ok (.iload_n 1, 1) := by decide +kernel
theorem dX8_clashOf_85 : decode cX8_clashOf 85 = .ok (.iconst 2, 1) := by decide +kernel
theorem dX8_clashOf_86 : decode cX8_clashOf 86 = .ok (.invokevirtual 110, 3) := by decide +kernel
theorem dX8_clashOf_89 : decode cX8_clashOf 89 = .ok (.iconst 1, 1) := by decide +kernel
theorem dX8_clashOf_90 : decode cX8_clashOf 90 = .ok (.isub, 1) := by decide +kernel
theorem dX8_clashOf_91 : decode cX8_clashOf 91 = .ok (.istore 7, 2) := by decide +kernel
theorem dX8_clashOf_93 : decode cX8_clashOf 93 = .ok (.aload_n 0, 1) := by decide +kernel
theorem dX8_clashOf_94 : decode cX8_clashOf 94 = .ok (.iload_n 1, 1) := by decide +kernel
theorem dX8_clashOf_95 : decode cX8_clashOf 95 = .ok (.iconst 3, 1) := by decide +kernel
theorem dX8_clashOf_96 : decode cX8_clashOf 96 = .ok (.invokevirtual 110, 3) := by decide +kernel
theorem dX8_clashOf_99 : decode cX8_clashOf 99 = .ok (.istore 8, 2) := by decide +kernel
theorem dX8_clashOf_101 : decode cX8_clashOf 101 = .ok (.aload_n 0, 1) := by decide +kernel
theorem dX8_clashOf_102 : decode cX8_clashOf 102 = .ok (.iload_n 3, 1) := by decide +kernel
theorem dX8_clashOf_103 : decode cX8_clashOf 103 = .ok (.iconst 2, 1) := by decide +kernel
theorem dX8_clashOf_104 : decode cX8_clashOf 104 = .ok (.invokevirtual 110, 3) := by decide +kernel
theorem dX8_clashOf_107 : decode cX8_clashOf 107 = .ok (.iconst 1, 1) := by decide +kernel
theorem dX8_clashOf_108 : decode cX8_clashOf 108 = .ok (.isub, 1) := by decide +kernel
theorem dX8_clashOf_109 : decode cX8_clashOf 109 = .ok (.istore 9, 2) := by decide +kernel
theorem dX8_clashOf_111 : decode cX8_clashOf 111 = .ok (.aload_n 0, 1) := by decide +kernel
theorem dX8_clashOf_112 : decode cX8_clashOf 112 = .ok (.iload_n 3, 1) := by decide +kernel
theorem dX8_clashOf_113 : decode cX8_clashOf 113 = .ok (.iconst 3, 1) := by decide +kernel
theorem dX8_clashOf_114 : decode cX8_clashOf 114 = .ok (.invokevirtual 110, 3) := by decide +kernel
theorem dX8_clashOf_117 : decode cX8_clashOf 117 = .ok (.istore 10, 2) := by decide +kernel
theorem dX8_clashOf_119 : decode cX8_clashOf 119 = .ok (.iload 7, 2) := by decide +kernel
theorem dX8_clashOf_121 : decode cX8_clashOf 121 = .ok (.iload 9, 2) := by decide +kernel
theorem dX8_clashOf_123 : decode cX8_clashOf 123 = .ok (.invokestatic 119, 3) := by decide +kernel
theorem dX8_clashOf_126 : decode cX8_clashOf 126 = .ok (.ifCond .eq 24, 3) := by decide +kernel
theorem dX8_clashOf_129 : decode cX8_clashOf 129 = .ok (.aload_n 0, 1) := by decide +kernel
theorem dX8_clashOf_130 : decode cX8_clashOf 130 = .ok (.iload_n 1, 1) := by decide +kernel
theorem dX8_clashOf_131 : decode cX8_clashOf 131 = .ok (.iload_n 2, 1) := by decide +kernel
theorem dX8_clashOf_132 : decode cX8_clashOf 132 = .ok (.invokevirtual 113, 3) := by decide +kernel
theorem dX8_clashOf_135 : decode cX8_clashOf 135 = .ok (.aload_n 0, 1) := by decide +kernel
theorem dX8_clashOf_136 : decode cX8_clashOf 136 = .ok (.iload_n 3, 1) := by decide +kernel
theorem dX8_clashOf_137 : decode cX8_clashOf 137 = .ok (.iload 4, 2) := by decide +kernel
theorem dX8_clashOf_139 : decode cX8_clashOf 139 = .ok (.invokevirtual 113, 3) := by decide +kernel
theorem dX8_clashOf_142 : decode cX8_clashOf 142 = .ok (.iand, 1) := by decide +kernel
theorem dX8_clashOf_143 : decode cX8_clashOf 143 = .ok (.ifCond .eq 7, 3) := by decide +kernel
theorem dX8_clashOf_146 : decode cX8_clashOf 146 = .ok (.iconst 1, 1) := by decide +kernel
theorem dX8_clashOf_147 : decode cX8_clashOf 147 = .ok (.goto 4, 3) := by decide +kernel
theorem dX8_clashOf_150 : decode cX8_clashOf 150 = .ok (.iconst 0, 1) := by decide +kernel
theorem dX8_clashOf_151 : decode cX8_clashOf 151 = .ok (.istore 11, 2) := by decide +kernel
theorem dX8_clashOf_153 : decode cX8_clashOf 153 = .ok (.iload 11, 2) := by decide +kernel
theorem dX8_clashOf_155 : decode cX8_clashOf 155 = .ok (.ifCond .ne 30, 3) := by decide +kernel
theorem dX8_clashOf_158 : decode cX8_clashOf 158 = .ok (.iload 7, 2) := by decide +kernel
theorem dX8_clashOf_160 : decode cX8_clashOf 160 = .ok (.iload 10, 2) := by decide +kernel
theorem dX8_clashOf_162 : decode cX8_clashOf 162 = .ok (.invokestatic 119, 3) := by decide +kernel
theorem dX8_clashOf_165 : decode cX8_clashOf 165 = .ok (.ifCond .eq 24, 3) := by decide +kernel
theorem dX8_clashOf_168 : decode cX8_clashOf 168 = .ok (.aload_n 0, 1) := by decide +kernel
theorem dX8_clashOf_169 : decode cX8_clashOf 169 = .ok (.iload_n 1, 1) := by decide +kernel
theorem dX8_clashOf_170 : decode cX8_clashOf 170 = .ok (.iload_n 2, 1) := by decide +kernel
theorem dX8_clashOf_171 : decode cX8_clashOf 171 = .ok (.invokevirtual 113, 3) := by decide +kernel
theorem dX8_clashOf_174 : decode cX8_clashOf 174 = .ok (.aload_n 0, 1) := by decide +kernel
theorem dX8_clashOf_175 : decode cX8_clashOf 175 = .ok (.iload_n 3, 1) := by decide +kernel
theorem dX8_clashOf_176 : decode cX8_clashOf 176 = .ok (.iload 4, 2) := by decide +kernel
theorem dX8_clashOf_178 : decode cX8_clashOf 178 = .ok (.invokevirtual 116, 3) := by decide +kernel
theorem dX8_clashOf_181 : decode cX8_clashOf 181 = .ok (.iand, 1) := by decide +kernel
theorem dX8_clashOf_182 : decode cX8_clashOf 182 = .ok (.ifCond .eq 7, 3) := by decide +kernel
theorem dX8_clashOf_185 : decode cX8_clashOf 185 = .ok (.iconst 1, 1) := by decide +kernel
theorem dX8_clashOf_186 : decode cX8_clashOf 186 = .ok (.goto 4, 3) := by decide +kernel
theorem dX8_clashOf_189 : decode cX8_clashOf 189 = .ok (.iconst 0, 1) := by decide +kernel
theorem dX8_clashOf_190 : decode cX8_clashOf 190 = .ok (.istore 11, 2) := by decide +kernel
theorem dX8_clashOf_192 : decode cX8_clashOf 192 = .ok (.iload 11, 2) := by decide +kernel
theorem dX8_clashOf_194 : decode cX8_clashOf 194 = .ok (.ifCond .ne 30, 3) := by decide +kernel
theorem dX8_clashOf_197 : decode cX8_clashOf 197 = .ok (.iload 8, 2) := by decide +kernel
theorem dX8_clashOf_199 : decode cX8_clashOf 199 = .ok (.iload 9, 2) := by decide +kernel
theorem dX8_clashOf_201 : decode cX8_clashOf 201 = .ok (.invokestatic 119, 3) := by decide +kernel
theorem dX8_clashOf_204 : decode cX8_clashOf 204 = .ok (.ifCond .eq 24, 3) := by decide +kernel
theorem dX8_clashOf_207 : decode cX8_clashOf 207 = .ok (.aload_n 0, 1) := by decide +kernel
theorem dX8_clashOf_208 : decode cX8_clashOf 208 = .ok (.iload_n 1, 1) := by decide +kernel
theorem dX8_clashOf_209 : decode cX8_clashOf 209 = .ok (.iload_n 2, 1) := by decide +kernel
theorem dX8_clashOf_210 : decode cX8_clashOf 210 = .ok (.invokevirtual 116, 3) := by decide +kernel
theorem dX8_clashOf_213 : decode cX8_clashOf 213 = .ok (.aload_n 0, 1) := by decide +kernel
theorem dX8_clashOf_214 : decode cX8_clashOf 214 = .ok (.iload_n 3, 1) := by decide +kernel
theorem dX8_clashOf_215 : decode cX8_clashOf 215 = .ok (.iload 4, 2) := by decide +kernel
theorem dX8_clashOf_217 : decode cX8_clashOf 217 = .ok (.invokevirtual 113, 3) := by decide +kernel
theorem dX8_clashOf_220 : decode cX8_clashOf 220 = .ok (.iand, 1) := by decide +kernel
theorem dX8_clashOf_221 : decode cX8_clashOf 221 = .ok (.ifCond .eq 7, 3) := by decide +kernel
theorem dX8_clashOf_224 : decode cX8_clashOf 224 = .ok (.iconst 1, 1) := by decide +kernel
theorem dX8_clashOf_225 : decode cX8_clashOf 225 = .ok (.goto 4, 3) := by decide +kernel
theorem dX8_clashOf_228 : decode cX8_clashOf 228 = .ok (.iconst 0, 1) := by decide +kernel
theorem dX8_clashOf_229 : decode cX8_clashOf 229 = .ok (.istore 11, 2) := by decide +kernel
theorem dX8_clashOf_231 : decode cX8_clashOf 231 = .ok (.iload 11, 2) := by decide +kernel
theorem dX8_clashOf_233 : decode cX8_clashOf 233 = .ok (.ifCond .ne 30, 3) := by decide +kernel
theorem dX8_clashOf_236 : decode cX8_clashOf 236 = .ok (.iload 8, 2) := by decide +kernel
theorem dX8_clashOf_238 : decode cX8_clashOf 238 = .ok (.iload 10, 2) := by decide +kernel
theorem dX8_clashOf_240 : decode cX8_clashOf 240 = .ok (.invokestatic 119, 3) := by decide +kernel
theorem dX8_clashOf_243 : decode cX8_clashOf 243 = .ok (.ifCond .eq 24, 3) := by decide +kernel
theorem dX8_clashOf_246 : decode cX8_clashOf 246 = .ok (.aload_n 0, 1) := by decide +kernel
theorem dX8_clashOf_247 : decode cX8_clashOf 247 = .ok (.iload_n 1, 1) := by decide +kernel
theorem dX8_clashOf_248 : decode cX8_clashOf 248 = .ok (.iload_n 2, 1) := by decide +kernel
theorem dX8_clashOf_249 : decode cX8_clashOf 249 = .ok (.invokevirtual 116, 3) := by decide +kernel
theorem dX8_clashOf_252 : decode cX8_clashOf 252 = .ok (.aload_n 0, 1) := by decide +kernel
theorem dX8_clashOf_253 : decode cX8_clashOf 253 = .ok (.iload_n 3, 1) := by decide +kernel
theorem dX8_clashOf_254 : decode cX8_clashOf 254 = .ok (.iload 4, 2) := by decide +kernel
theorem dX8_clashOf_256 : decode cX8_clashOf 256 = .ok (.invokevirtual 116, 3) := by decide +kernel
theorem dX8_clashOf_259 : decode cX8_clashOf 259 = .ok (.iand, 1) := by decide +kernel
theorem dX8_clashOf_260 : decode cX8_clashOf 260 = .ok (.ifCond .eq 7, 3) := by decide +kernel
theorem dX8_clashOf_263 : decode cX8_clashOf 263 = .ok (.iconst 1, 1) := by decide +kernel
theorem dX8_clashOf_264 : decode cX8_clashOf 264 = .ok (.goto 4, 3) := by decide +kernel
theorem dX8_clashOf_267 : decode cX8_clashOf 267 = .ok (.iconst 0, 1) := by decide +kernel
theorem dX8_clashOf_268 : decode cX8_clashOf 268 = .ok (.istore 11, 2) := by decide +kernel
theorem dX8_clashOf_270 : decode cX8_clashOf 270 = .ok (.iload_n 2, 1) := by decide +kernel
theorem dX8_clashOf_271 : decode cX8_clashOf 271 = .ok (.iload 4, 2) := by decide +kernel
theorem dX8_clashOf_273 : decode cX8_clashOf 273 = .ok (.if_icmp .ne 12, 3) := by decide +kernel
theorem dX8_clashOf_276 : decode cX8_clashOf 276 = .ok (.iload 6, 2) := by decide +kernel
theorem dX8_clashOf_278 : decode cX8_clashOf 278 = .ok (.ifCond .ne 7, 3) := by decide +kernel
theorem dX8_clashOf_281 : decode cX8_clashOf 281 = .ok (.iconst 1, 1) := by decide +kernel
theorem dX8_clashOf_282 : decode cX8_clashOf 282 = .ok (.goto 4, 3) := by decide +kernel
theorem dX8_clashOf_285 : decode cX8_clashOf 285 = .ok (.iconst 0, 1) := by decide +kernel
theorem dX8_clashOf_286 : decode cX8_clashOf 286 = .ok (.iload 11, 2) := by decide +kernel
theorem dX8_clashOf_288 : decode cX8_clashOf 288 = .ok (.ifCond .eq 7, 3) := by decide +kernel
theorem dX8_clashOf_291 : decode cX8_clashOf 291 = .ok (.iconst 2, 1) := by decide +kernel
theorem dX8_clashOf_292 : decode cX8_clashOf 292 = .ok (.goto 4, 3) := by decide +kernel
theorem dX8_clashOf_295 : decode cX8_clashOf 295 = .ok (.iconst 0, 1) := by decide +kernel
theorem dX8_clashOf_296 : decode cX8_clashOf 296 = .ok (.iadd, 1) := by decide +kernel
theorem dX8_clashOf_297 : decode cX8_clashOf 297 = .ok (.ireturn, 1) := by decide +kernel
theorem dX8_clashing_0 : decode cX8_clashing 0 = .ok (.iconst 0, 1) := by decide +kernel
theorem dX8_clashing_1 : decode cX8_clashing 1 = .ok (.istore_n 3, 1) := by decide +kernel
theorem dX8_clashing_2 : decode cX8_clashing 2 = .ok (.iload_n 3, 1) := by decide +kernel
theorem dX8_clashing_3 : decode cX8_clashing 3 = .ok (.aload_n 0, 1) := by decide +kernel
theorem dX8_clashing_4 : decode cX8_clashing 4 = .ok (.getfield 7, 3) := by decide +kernel
theorem dX8_clashing_7 : decode cX8_clashing 7 = .ok (.iconst 2, 1) := by decide +kernel
theorem dX8_clashing_8 : decode cX8_clashing 8 = .ok (.iaload, 1) := by decide +kernel
theorem dX8_clashing_9 : decode cX8_clashing 9 = .ok (.if_icmp .ge 45, 3) := by decide +kernel
theorem dX8_clashing_12 : decode cX8_clashing 12 = .ok (.iload_n 3, 1) := by decide +kernel
theorem dX8_clashing_13 : decode cX8_clashing 13 = .ok (.iload_n 1, 1) := by decide +kernel
theorem dX8_clashing_14 : decode cX8_clashing 14 = .ok (.if_icmp .eq 34, 3) := by decide +kernel
theorem dX8_clashing_17 : decode cX8_clashing 17 = .ok (.aload_n 0, 1) := by decide +kernel
theorem dX8_clashing_18 : decode cX8_clashing 18 = .ok (.iload_n 3, 1) := by decide +kernel
theorem dX8_clashing_19 : decode cX8_clashing 19 = .ok (.bipush 6, 2) := by decide +kernel
theorem dX8_clashing_21 : decode cX8_clashing 21 = .ok (.invokevirtual 110, 3) := by decide +kernel
theorem dX8_clashing_24 : decode cX8_clashing 24 = .ok (.bipush (-4), 2) := by decide +kernel
theorem dX8_clashing_26 : decode cX8_clashing 26 = .ok (.if_icmp .eq 22, 3) := by decide +kernel
theorem dX8_clashing_29 : decode cX8_clashing 29 = .ok (.aload_n 0, 1) := by decide +kernel
theorem dX8_clashing_30 : decode cX8_clashing 30 = .ok (.iload_n 1, 1) := by decide +kernel
theorem dX8_clashing_31 : decode cX8_clashing 31 = .ok (.iload_n 2, 1) := by decide +kernel
theorem dX8_clashing_32 : decode cX8_clashing 32 = .ok (.iload_n 3, 1) := by decide +kernel
theorem dX8_clashing_33 : decode cX8_clashing 33 = .ok (.aload_n 0, 1) := by decide +kernel
theorem dX8_clashing_34 : decode cX8_clashing 34 = .ok (.iload_n 3, 1) := by decide +kernel
theorem dX8_clashing_35 : decode cX8_clashing 35 = .ok (.bipush 6, 2) := by decide +kernel
theorem dX8_clashing_37 : decode cX8_clashing 37 = .ok (.invokevirtual 110, 3) := by decide +kernel
theorem dX8_clashing_40 : decode cX8_clashing 40 = .ok (.invokevirtual 122, 3) := by decide +kernel
theorem dX8_clashing_43 : decode cX8_clashing 43 = .ok (.ifCond .le 5, 3) := by decide +kernel
theorem dX8_clashing_46 : decode cX8_clashing 46 = .ok (.iload_n 3, 1) := by decide +kernel
theorem dX8_clashing_47 : decode cX8_clashing 47 = .ok (.ireturn, 1) := by decide +kernel
theorem dX8_clashing_48 : decode cX8_clashing 48 = .ok (.iinc 3 1, 3) := by decide +kernel
theorem dX8_clashing_51 : decode cX8_clashing 51 = .ok (.goto (-49), 3) := by decide +kernel
theorem dX8_clashing_54 : decode cX8_clashing 54 = .ok (.bipush (-4), 2) := by decide +kernel
theorem dX8_clashing_56 : decode cX8_clashing 56 = .ok (.ireturn, 1) := by decide +kernel
theorem dX8_whyNot_0 : decode cX8_whyNot 0 = .ok (.aload_n 0, 1) := by decide +kernel
theorem dX8_whyNot_1 : decode cX8_whyNot 1 = .ok (.iload_n 1, 1) := by decide +kernel
theorem dX8_whyNot_2 : decode cX8_whyNot 2 = .ok (.iload_n 2, 1) := by decide +kernel
theorem dX8_whyNot_3 : decode cX8_whyNot 3 = .ok (.invokevirtual 113, 3) := by decide +kernel
theorem dX8_whyNot_6 : decode cX8_whyNot 6 = .ok (.bipush (-4), 2) := by decide +kernel
theorem dX8_whyNot_8 : decode cX8_whyNot 8 = .ok (.if_icmp .ne 5, 3) := by decide +kernel
theorem dX8_whyNot_11 : decode cX8_whyNot 11 = .ok (.iconst 1, 1) := by decide +kernel
theorem dX8_whyNot_12 : decode cX8_whyNot 12 = .ok (.ireturn, 1) := by decide +kernel
theorem dX8_whyNot_13 : decode cX8_whyNot 13 = .ok (.aload_n 0, 1) := by decide +kernel
theorem dX8_whyNot_14 : decode cX8_whyNot 14 = .ok (.iload_n 1, 1) := by decide +kernel
theorem dX8_whyNot_15 : decode cX8_whyNot 15 = .ok (.iload_n 2, 1) := by decide +kernel
theorem dX8_whyNot_16 : decode cX8_whyNot 16 = .ok (.invokevirtual 116, 3) := by decide +kernel
theorem dX8_whyNot_19 : decode cX8_whyNot 19 = .ok (.bipush (-4), 2) := by decide +kernel
theorem dX8_whyNot_21 : decode cX8_whyNot 21 = .ok (.if_icmp .ne 5, 3) := by decide +kernel
theorem dX8_whyNot_24 : decode cX8_whyNot 24 = .ok (.iconst 2, 1) := by decide +kernel
theorem dX8_whyNot_25 : decode cX8_whyNot 25 = .ok (.ireturn, 1) := by decide +kernel
theorem dX8_whyNot_26 : decode cX8_whyNot 26 = .ok (.aload_n 0, 1) := by decide +kernel
theorem dX8_whyNot_27 : decode cX8_whyNot 27 = .ok (.iload_n 1, 1) := by decide +kernel
theorem dX8_whyNot_28 : decode cX8_whyNot 28 = .ok (.iload_n 2, 1) := by decide +kernel
theorem dX8_whyNot_29 : decode cX8_whyNot 29 = .ok (.invokevirtual 126, 3) := by decide +kernel
theorem dX8_whyNot_32 : decode cX8_whyNot 32 = .ok (.istore_n 3, 1) := by decide +kernel
theorem dX8_whyNot_33 : decode cX8_whyNot 33 = .ok (.iload_n 3, 1) := by decide +kernel
theorem dX8_whyNot_34 : decode cX8_whyNot 34 = .ok (.bipush (-4), 2) := by decide +kernel
theorem dX8_whyNot_36 : decode cX8_whyNot 36 = .ok (.if_icmp .ne 7, 3) := by decide +kernel
theorem dX8_whyNot_39 : decode cX8_whyNot 39 = .ok (.iconst 0, 1) := by decide +kernel
theorem dX8_whyNot_40 : decode cX8_whyNot 40 = .ok (.goto 6, 3) := by decide +kernel
theorem dX8_whyNot_43 : decode cX8_whyNot 43 = .ok (.iconst 3, 1) := by decide +kernel
theorem dX8_whyNot_44 : decode cX8_whyNot 44 = .ok (.iload_n 3, 1) := by decide +kernel
theorem dX8_whyNot_45 : decode cX8_whyNot 45 = .ok (.iadd, 1) := by decide +kernel
theorem dX8_whyNot_46 : decode cX8_whyNot 46 = .ok (.ireturn, 1) := by decide +kernel
theorem dX8_fits_0 : decode cX8_fits 0 = .ok (.iconst 0, 1) := by decide +kernel
theorem dX8_fits_1 : decode cX8_fits 1 = .ok (.istore_n 2, 1) := by decide +kernel
theorem dX8_fits_2 : decode cX8_fits 2 = .ok (.iconst 0, 1) := by decide +kernel
theorem dX8_fits_3 : decode cX8_fits 3 = .ok (.istore_n 3, 1) := by decide +kernel
theorem dX8_fits_4 : decode cX8_fits 4 = .ok (.iload_n 3, 1) := by decide +kernel
theorem dX8_fits_5 : decode cX8_fits 5 = .ok (.aload_n 0, 1) := by decide +kernel
theorem dX8_fits_6 : decode cX8_fits 6 = .ok (.getfield 7, 3) := by decide +kernel
theorem dX8_fits_9 : decode cX8_fits 9 = .ok (.iconst 1, 1) := by decide +kernel
theorem dX8_fits_10 : decode cX8_fits 10 = .ok (.iaload, 1) := by decide +kernel
theorem dX8_fits_11 : decode cX8_fits 11 = .ok (.if_icmp .ge 28, 3) := by decide +kernel
theorem dX8_fits_14 : decode cX8_fits 14 = .ok (.iload_n 2, 1) := by decide +kernel
theorem dX8_fits_15 : decode cX8_fits 15 = .ok (.aload_n 0, 1) := by decide +kernel
theorem dX8_fits_16 : decode cX8_fits 16 = .ok (.iload_n 1, 1) := by decide +kernel
theorem dX8_fits_17 : decode cX8_fits 17 = .ok (.iload_n 3, 1) := by decide +kernel
theorem dX8_fits_18 : decode cX8_fits 18 = .ok (.invokevirtual 129, 3) := by decide +kernel
theorem dX8_fits_21 : decode cX8_fits 21 = .ok (.ifCond .eq 9, 3) := by decide +kernel
theorem dX8_fits_24 : decode cX8_fits 24 = .ok (.iconst 1, 1) := by decide +kernel
theorem dX8_fits_25 : decode cX8_fits 25 = .ok (.iload_n 3, 1) := by decide +kernel
theorem dX8_fits_26 : decode cX8_fits 26 = .ok (.ishl, 1) := by decide +kernel
theorem dX8_fits_27 : decode cX8_fits 27 = .ok (.goto 4, 3) := by decide +kernel
theorem dX8_fits_30 : decode cX8_fits 30 = .ok (.iconst 0, 1) := by decide +kernel
theorem dX8_fits_31 : decode cX8_fits 31 = .ok (.ior, 1) := by decide +kernel
theorem dX8_fits_32 : decode cX8_fits 32 = .ok (.istore_n 2, 1) := by decide +kernel
theorem dX8_fits_33 : decode cX8_fits 33 = .ok (.iinc 3 1, 3) := by decide +kernel
theorem dX8_fits_36 : decode cX8_fits 36 = .ok (.goto (-32), 3) := by decide +kernel
theorem dX8_fits_39 : decode cX8_fits 39 = .ok (.iload_n 2, 1) := by decide +kernel
theorem dX8_fits_40 : decode cX8_fits 40 = .ok (.ireturn, 1) := by decide +kernel
theorem dX8_hardOf_0 : decode cX8_hardOf 0 = .ok (.iconst 0, 1) := by decide +kernel
theorem dX8_hardOf_1 : decode cX8_hardOf 1 = .ok (.istore_n 2, 1) := by decide +kernel
theorem dX8_hardOf_2 : decode cX8_hardOf 2 = .ok (.iconst 0, 1) := by decide +kernel
theorem dX8_hardOf_3 : decode cX8_hardOf 3 = .ok (.istore_n 3, 1) := by decide +kernel
theorem dX8_hardOf_4 : decode cX8_hardOf 4 = .ok (.iload_n 3, 1) := by decide +kernel
theorem dX8_hardOf_5 : decode cX8_hardOf 5 = .ok (.aload_n 0, 1) := by decide +kernel
theorem dX8_hardOf_6 : decode cX8_hardOf 6 = .ok (.getfield 7, 3) := by decide +kernel
theorem dX8_hardOf_9 : decode cX8_hardOf 9 = .ok (.iconst 1, 1) := by decide +kernel
theorem dX8_hardOf_10 : decode cX8_hardOf 10 = .ok (.iaload, 1) := by decide +kernel
theorem dX8_hardOf_11 : decode cX8_hardOf 11 = .ok (.if_icmp .ge 26, 3) := by decide +kernel
theorem dX8_hardOf_14 : decode cX8_hardOf 14 = .ok (.iload_n 2, 1) := by decide +kernel
theorem dX8_hardOf_15 : decode cX8_hardOf 15 = .ok (.aload_n 0, 1) := by decide +kernel
theorem dX8_hardOf_16 : decode cX8_hardOf 16 = .ok (.iload_n 1, 1) := by decide +kernel
theorem dX8_hardOf_17 : decode cX8_hardOf 17 = .ok (.iload_n 3, 1) := by decide +kernel
theorem dX8_hardOf_18 : decode cX8_hardOf 18 = .ok (.invokevirtual 132, 3) := by decide +kernel
theorem dX8_hardOf_21 : decode cX8_hardOf 21 = .ok (.ifCond .ne 7, 3) := by decide +kernel
theorem dX8_hardOf_24 : decode cX8_hardOf 24 = .ok (.iconst 1, 1) := by decide +kernel
theorem dX8_hardOf_25 : decode cX8_hardOf 25 = .ok (.goto 4, 3) := by decide +kernel
theorem dX8_hardOf_28 : decode cX8_hardOf 28 = .ok (.iconst 0, 1) := by decide +kernel
theorem dX8_hardOf_29 : decode cX8_hardOf 29 = .ok (.iadd, 1) := by decide +kernel
theorem dX8_hardOf_30 : decode cX8_hardOf 30 = .ok (.istore_n 2, 1) := by decide +kernel
theorem dX8_hardOf_31 : decode cX8_hardOf 31 = .ok (.iinc 3 1, 3) := by decide +kernel
theorem dX8_hardOf_34 : decode cX8_hardOf 34 = .ok (.goto (-30), 3) := by decide +kernel
theorem dX8_hardOf_37 : decode cX8_hardOf 37 = .ok (.iload_n 2, 1) := by decide +kernel
theorem dX8_hardOf_38 : decode cX8_hardOf 38 = .ok (.ireturn, 1) := by decide +kernel
theorem dX8_train_0 : decode cX8_train 0 = .ok (.aload_n 0, 1) := by decide +kernel
theorem dX8_train_1 : decode cX8_train 1 = .ok (.iload_n 1, 1) := by decide +kernel
theorem dX8_train_2 : decode cX8_train 2 = .ok (.invokevirtual 135, 3) := by decide +kernel
theorem dX8_train_5 : decode cX8_train 5 = .ok (.ifCond .eq 13, 3) := by decide +kernel
theorem dX8_train_8 : decode cX8_train 8 = .ok (.iload_n 2, 1) := by decide +kernel
theorem dX8_train_9 : decode cX8_train 9 = .ok (.iconst 0, 1) := by decide +kernel
theorem dX8_train_10 : decode cX8_train 10 = .ok (.bipush 8, 2) := by decide +kernel
theorem dX8_train_12 : decode cX8_train 12 = .ok (.invokestatic 58, 3) := by decide +kernel
theorem dX8_train_15 : decode cX8_train 15 = .ok (.ifCond .ne 5, 3) := by decide +kernel
theorem dX8_train_18 : decode cX8_train 18 = .ok (.iconst (-1), 1) := by decide +kernel
theorem dX8_train_19 : decode cX8_train 19 = .ok (.ireturn, 1) := by decide +kernel
theorem dX8_train_20 : decode cX8_train 20 = .ok (.iload_n 2, 1) := by decide +kernel
theorem dX8_train_21 : decode cX8_train 21 = .ok (.bipush 7, 2) := by decide +kernel
theorem dX8_train_23 : decode cX8_train 23 = .ok (.if_icmp .ge 10, 3) := by decide +kernel
theorem dX8_train_26 : decode cX8_train 26 = .ok (.aload_n 0, 1) := by decide +kernel
theorem dX8_train_27 : decode cX8_train 27 = .ok (.iload_n 1, 1) := by decide +kernel
theorem dX8_train_28 : decode cX8_train 28 = .ok (.iload_n 2, 1) := by decide +kernel
theorem dX8_train_29 : decode cX8_train 29 = .ok (.invokevirtual 110, 3) := by decide +kernel
theorem dX8_train_32 : decode cX8_train 32 = .ok (.ireturn, 1) := by decide +kernel
theorem dX8_train_33 : decode cX8_train 33 = .ok (.iload_n 2, 1) := by decide +kernel
theorem dX8_train_34 : decode cX8_train 34 = .ok (.bipush 7, 2) := by decide +kernel
theorem dX8_train_36 : decode cX8_train 36 = .ok (.if_icmp .ne 11, 3) := by decide +kernel
theorem dX8_train_39 : decode cX8_train 39 = .ok (.aload_n 0, 1) := by decide +kernel
theorem dX8_train_40 : decode cX8_train 40 = .ok (.iload_n 1, 1) := by decide +kernel
theorem dX8_train_41 : decode cX8_train 41 = .ok (.invokevirtual 138, 3) := by decide +kernel
theorem dX8_train_44 : decode cX8_train 44 = .ok (.goto 8, 3) := by decide +kernel
theorem dX8_train_47 : decode cX8_train 47 = .ok (.aload_n 0, 1) := by decide +kernel
theorem dX8_train_48 : decode cX8_train 48 = .ok (.iload_n 1, 1) := by decide +kernel
theorem dX8_train_49 : decode cX8_train 49 = .ok (.invokevirtual 142, 3) := by decide +kernel
theorem dX8_train_52 : decode cX8_train 52 = .ok (.ireturn, 1) := by decide +kernel
theorem dX8_placed_0 : decode cX8_placed 0 = .ok (.iconst 0, 1) := by decide +kernel
theorem dX8_placed_1 : decode cX8_placed 1 = .ok (.istore_n 1, 1) := by decide +kernel
theorem dX8_placed_2 : decode cX8_placed 2 = .ok (.iconst 0, 1) := by decide +kernel
theorem dX8_placed_3 : decode cX8_placed 3 = .ok (.istore_n 2, 1) := by decide +kernel
theorem dX8_placed_4 : decode cX8_placed 4 = .ok (.iload_n 2, 1) := by decide +kernel
theorem dX8_placed_5 : decode cX8_placed 5 = .ok (.aload_n 0, 1) := by decide +kernel
theorem dX8_placed_6 : decode cX8_placed 6 = .ok (.getfield 7, 3) := by decide +kernel
theorem dX8_placed_9 : decode cX8_placed 9 = .ok (.iconst 2, 1) := by decide +kernel
theorem dX8_placed_10 : decode cX8_placed 10 = .ok (.iaload, 1) := by decide +kernel
theorem dX8_placed_11 : decode cX8_placed 11 = .ok (.if_icmp .ge 29, 3) := by decide +kernel
theorem dX8_placed_14 : decode cX8_placed 14 = .ok (.iload_n 1, 1) := by decide +kernel
theorem dX8_placed_15 : decode cX8_placed 15 = .ok (.aload_n 0, 1) := by decide +kernel
theorem dX8_placed_16 : decode cX8_placed 16 = .ok (.iload_n 2, 1) := by decide +kernel
theorem dX8_placed_17 : decode cX8_placed 17 = .ok (.bipush 6, 2) := by decide +kernel
theorem dX8_placed_19 : decode cX8_placed 19 = .ok (.invokevirtual 110, 3) := by decide +kernel
theorem dX8_placed_22 : decode cX8_placed 22 = .ok (.bipush (-4), 2) := by decide +kernel
theorem dX8_placed_24 : decode cX8_placed 24 = .ok (.if_icmp .ne 7, 3) := by decide +kernel
theorem dX8_placed_27 : decode cX8_placed 27 = .ok (.iconst 0, 1) := by decide +kernel
theorem dX8_placed_28 : decode cX8_placed 28 = .ok (.goto 4, 3) := by decide +kernel
theorem dX8_placed_31 : decode cX8_placed 31 = .ok (.iconst 1, 1) := by decide +kernel
theorem dX8_placed_32 : decode cX8_placed 32 = .ok (.iadd, 1) := by decide +kernel
theorem dX8_placed_33 : decode cX8_placed 33 = .ok (.istore_n 1, 1) := by decide +kernel
theorem dX8_placed_34 : decode cX8_placed 34 = .ok (.iinc 2 1, 3) := by decide +kernel
theorem dX8_placed_37 : decode cX8_placed 37 = .ok (.goto (-33), 3) := by decide +kernel
theorem dX8_placed_40 : decode cX8_placed 40 = .ok (.iload_n 1, 1) := by decide +kernel
theorem dX8_placed_41 : decode cX8_placed 41 = .ok (.ireturn, 1) := by decide +kernel
theorem dX8_give_0 : decode cX8_give 0 = .ok (.aload_n 0, 1) := by decide +kernel
theorem dX8_give_1 : decode cX8_give 1 = .ok (.iload_n 1, 1) := by decide +kernel
theorem dX8_give_2 : decode cX8_give 2 = .ok (.invokevirtual 135, 3) := by decide +kernel
theorem dX8_give_5 : decode cX8_give 5 = .ok (.ifCond .eq 11, 3) := by decide +kernel
theorem dX8_give_8 : decode cX8_give 8 = .ok (.aload_n 0, 1) := by decide +kernel
theorem dX8_give_9 : decode cX8_give 9 = .ok (.iload_n 2, 1) := by decide +kernel
theorem dX8_give_10 : decode cX8_give 10 = .ok (.invokevirtual 102, 3) := by decide +kernel
theorem dX8_give_13 : decode cX8_give 13 = .ok (.ifCond .ne 5, 3) := by decide +kernel
theorem dX8_give_16 : decode cX8_give 16 = .ok (.iconst (-1), 1) := by decide +kernel
theorem dX8_give_17 : decode cX8_give 17 = .ok (.ireturn, 1) := by decide +kernel
theorem dX8_give_18 : decode cX8_give 18 = .ok (.aload_n 0, 1) := by decide +kernel
theorem dX8_give_19 : decode cX8_give 19 = .ok (.iload_n 1, 1) := by decide +kernel
theorem dX8_give_20 : decode cX8_give 20 = .ok (.bipush 6, 2) := by decide +kernel
theorem dX8_give_22 : decode cX8_give 22 = .ok (.invokevirtual 110, 3) := by decide +kernel
theorem dX8_give_25 : decode cX8_give 25 = .ok (.bipush (-4), 2) := by decide +kernel
theorem dX8_give_27 : decode cX8_give 27 = .ok (.if_icmp .ne 12, 3) := by decide +kernel
theorem dX8_give_30 : decode cX8_give 30 = .ok (.aload_n 0, 1) := by decide +kernel
theorem dX8_give_31 : decode cX8_give 31 = .ok (.iload_n 1, 1) := by decide +kernel
theorem dX8_give_32 : decode cX8_give 32 = .ok (.iload_n 2, 1) := by decide +kernel
theorem dX8_give_33 : decode cX8_give 33 = .ok (.invokevirtual 132, 3) := by decide +kernel
theorem dX8_give_36 : decode cX8_give 36 = .ok (.ifCond .eq 6, 3) := by decide +kernel
theorem dX8_give_39 : decode cX8_give 39 = .ok (.bipush (-2), 2) := by decide +kernel
theorem dX8_give_41 : decode cX8_give 41 = .ok (.ireturn, 1) := by decide +kernel
theorem dX8_give_42 : decode cX8_give 42 = .ok (.aload_n 0, 1) := by decide +kernel
theorem dX8_give_43 : decode cX8_give 43 = .ok (.invokevirtual 145, 3) := by decide +kernel
theorem dX8_give_46 : decode cX8_give 46 = .ok (.aload_n 0, 1) := by decide +kernel
theorem dX8_give_47 : decode cX8_give 47 = .ok (.iload_n 1, 1) := by decide +kernel
theorem dX8_give_48 : decode cX8_give 48 = .ok (.bipush 6, 2) := by decide +kernel
theorem dX8_give_50 : decode cX8_give 50 = .ok (.iload_n 2, 1) := by decide +kernel
theorem dX8_give_51 : decode cX8_give 51 = .ok (.invokevirtual 148, 3) := by decide +kernel
theorem dX8_give_54 : decode cX8_give 54 = .ok (.aload_n 0, 1) := by decide +kernel
theorem dX8_give_55 : decode cX8_give 55 = .ok (.invokevirtual 152, 3) := by decide +kernel
theorem dX8_give_58 : decode cX8_give 58 = .ok (.ireturn, 1) := by decide +kernel
theorem dX8_take_0 : decode cX8_take 0 = .ok (.aload_n 0, 1) := by decide +kernel
theorem dX8_take_1 : decode cX8_take 1 = .ok (.iload_n 1, 1) := by decide +kernel
theorem dX8_take_2 : decode cX8_take 2 = .ok (.invokevirtual 135, 3) := by decide +kernel
theorem dX8_take_5 : decode cX8_take 5 = .ok (.ifCond .ne 5, 3) := by decide +kernel
theorem dX8_take_8 : decode cX8_take 8 = .ok (.iconst (-1), 1) := by decide +kernel
theorem dX8_take_9 : decode cX8_take 9 = .ok (.ireturn, 1) := by decide +kernel
theorem dX8_take_10 : decode cX8_take 10 = .ok (.aload_n 0, 1) := by decide +kernel
theorem dX8_take_11 : decode cX8_take 11 = .ok (.iload_n 1, 1) := by decide +kernel
theorem dX8_take_12 : decode cX8_take 12 = .ok (.bipush 6, 2) := by decide +kernel
theorem dX8_take_14 : decode cX8_take 14 = .ok (.invokevirtual 110, 3) := by decide +kernel
theorem dX8_take_17 : decode cX8_take 17 = .ok (.istore_n 2, 1) := by decide +kernel
theorem dX8_take_18 : decode cX8_take 18 = .ok (.iload_n 2, 1) := by decide +kernel
theorem dX8_take_19 : decode cX8_take 19 = .ok (.bipush (-4), 2) := by decide +kernel
theorem dX8_take_21 : decode cX8_take 21 = .ok (.if_icmp .ne 6, 3) := by decide +kernel
theorem dX8_take_24 : decode cX8_take 24 = .ok (.bipush (-2), 2) := by decide +kernel
theorem dX8_take_26 : decode cX8_take 26 = .ok (.ireturn, 1) := by decide +kernel
theorem dX8_take_27 : decode cX8_take 27 = .ok (.aload_n 0, 1) := by decide +kernel
theorem dX8_take_28 : decode cX8_take 28 = .ok (.invokevirtual 145, 3) := by decide +kernel
theorem dX8_take_31 : decode cX8_take 31 = .ok (.aload_n 0, 1) := by decide +kernel
theorem dX8_take_32 : decode cX8_take 32 = .ok (.iload_n 1, 1) := by decide +kernel
theorem dX8_take_33 : decode cX8_take 33 = .ok (.bipush 6, 2) := by decide +kernel
theorem dX8_take_35 : decode cX8_take 35 = .ok (.bipush (-4), 2) := by decide +kernel
theorem dX8_take_37 : decode cX8_take 37 = .ok (.invokevirtual 148, 3) := by decide +kernel
theorem dX8_take_40 : decode cX8_take 40 = .ok (.iload_n 2, 1) := by decide +kernel
theorem dX8_take_41 : decode cX8_take 41 = .ok (.ireturn, 1) := by decide +kernel
theorem dX8_why_0 : decode cX8_why 0 = .ok (.aload_n 0, 1) := by decide +kernel
theorem dX8_why_1 : decode cX8_why 1 = .ok (.iload_n 1, 1) := by decide +kernel
theorem dX8_why_2 : decode cX8_why 2 = .ok (.invokevirtual 135, 3) := by decide +kernel
theorem dX8_why_5 : decode cX8_why 5 = .ok (.ifCond .eq 20, 3) := by decide +kernel
theorem dX8_why_8 : decode cX8_why 8 = .ok (.aload_n 0, 1) := by decide +kernel
theorem dX8_why_9 : decode cX8_why 9 = .ok (.iload_n 2, 1) := by decide +kernel
theorem dX8_why_10 : decode cX8_why 10 = .ok (.invokevirtual 102, 3) := by decide +kernel
theorem dX8_why_13 : decode cX8_why 13 = .ok (.ifCond .eq 12, 3) := by decide +kernel
theorem dX8_why_16 : decode cX8_why 16 = .ok (.aload_n 0, 1) := by decide +kernel
theorem dX8_why_17 : decode cX8_why 17 = .ok (.iload_n 1, 1) := by decide +kernel
theorem dX8_why_18 : decode cX8_why 18 = .ok (.iload_n 2, 1) := by decide +kernel
theorem dX8_why_19 : decode cX8_why 19 = .ok (.invokevirtual 132, 3) := by decide +kernel
theorem dX8_why_22 : decode cX8_why 22 = .ok (.goto 4, 3) := by decide +kernel
theorem dX8_why_25 : decode cX8_why 25 = .ok (.iconst (-1), 1) := by decide +kernel
theorem dX8_why_26 : decode cX8_why 26 = .ok (.ireturn, 1) := by decide +kernel
theorem dX8_clash_0 : decode cX8_clash 0 = .ok (.aload_n 0, 1) := by decide +kernel
theorem dX8_clash_1 : decode cX8_clash 1 = .ok (.iload_n 1, 1) := by decide +kernel
theorem dX8_clash_2 : decode cX8_clash 2 = .ok (.invokevirtual 135, 3) := by decide +kernel
theorem dX8_clash_5 : decode cX8_clash 5 = .ok (.ifCond .eq 33, 3) := by decide +kernel
theorem dX8_clash_8 : decode cX8_clash 8 = .ok (.aload_n 0, 1) := by decide +kernel
theorem dX8_clash_9 : decode cX8_clash 9 = .ok (.iload_n 3, 1) := by decide +kernel
theorem dX8_clash_10 : decode cX8_clash 10 = .ok (.invokevirtual 135, 3) := by decide +kernel
theorem dX8_clash_13 : decode cX8_clash 13 = .ok (.ifCond .eq 25, 3) := by decide +kernel
theorem dX8_clash_16 : decode cX8_clash 16 = .ok (.iload_n 1, 1) := by decide +kernel
theorem dX8_clash_17 : decode cX8_clash 17 = .ok (.iload_n 3, 1) := by decide +kernel
theorem dX8_clash_18 : decode cX8_clash 18 = .ok (.if_icmp .eq 20, 3) := by decide +kernel
theorem dX8_clash_21 : decode cX8_clash 21 = .ok (.aload_n 0, 1) := by decide +kernel
theorem dX8_clash_22 : decode cX8_clash 22 = .ok (.iload_n 2, 1) := by decide +kernel
theorem dX8_clash_23 : decode cX8_clash 23 = .ok (.invokevirtual 102, 3) := by decide +kernel
theorem dX8_clash_26 : decode cX8_clash 26 = .ok (.ifCond .eq 12, 3) := by decide +kernel
theorem dX8_clash_29 : decode cX8_clash 29 = .ok (.aload_n 0, 1) := by decide +kernel
theorem dX8_clash_30 : decode cX8_clash 30 = .ok (.iload 4, 2) := by decide +kernel
theorem dX8_clash_32 : decode cX8_clash 32 = .ok (.invokevirtual 102, 3) := by decide +kernel
theorem dX8_clash_35 : decode cX8_clash 35 = .ok (.ifCond .ne 5, 3) := by decide +kernel
theorem dX8_clash_38 : decode cX8_clash 38 = .ok (.iconst (-1), 1) := by decide +kernel
theorem dX8_clash_39 : decode cX8_clash 39 = .ok (.ireturn, 1) := by decide +kernel
theorem dX8_clash_40 : decode cX8_clash 40 = .ok (.aload_n 0, 1) := by decide +kernel
theorem dX8_clash_41 : decode cX8_clash 41 = .ok (.iload_n 1, 1) := by decide +kernel
theorem dX8_clash_42 : decode cX8_clash 42 = .ok (.iload_n 2, 1) := by decide +kernel
theorem dX8_clash_43 : decode cX8_clash 43 = .ok (.invokevirtual 129, 3) := by decide +kernel
theorem dX8_clash_46 : decode cX8_clash 46 = .ok (.ifCond .eq 25, 3) := by decide +kernel
theorem dX8_clash_49 : decode cX8_clash 49 = .ok (.aload_n 0, 1) := by decide +kernel
theorem dX8_clash_50 : decode cX8_clash 50 = .ok (.iload_n 3, 1) := by decide +kernel
theorem dX8_clash_51 : decode cX8_clash 51 = .ok (.iload 4, 2) := by decide +kernel
theorem dX8_clash_53 : decode cX8_clash 53 = .ok (.invokevirtual 129, 3) := by decide +kernel
theorem dX8_clash_56 : decode cX8_clash 56 = .ok (.ifCond .eq 15, 3) := by decide +kernel
theorem dX8_clash_59 : decode cX8_clash 59 = .ok (.aload_n 0, 1) := by decide +kernel
theorem dX8_clash_60 : decode cX8_clash 60 = .ok (.iload_n 1, 1) := by decide +kernel
theorem dX8_clash_61 : decode cX8_clash 61 = .ok (.iload_n 2, 1) := by decide +kernel
theorem dX8_clash_62 : decode cX8_clash 62 = .ok (.iload_n 3, 1) := by decide +kernel
theorem dX8_clash_63 : decode cX8_clash 63 = .ok (.iload 4, 2) := by decide +kernel
theorem dX8_clash_65 : decode cX8_clash 65 = .ok (.invokevirtual 122, 3) := by decide +kernel
theorem dX8_clash_68 : decode cX8_clash 68 = .ok (.goto 4, 3) := by decide +kernel
theorem dX8_clash_71 : decode cX8_clash 71 = .ok (.iconst 0, 1) := by decide +kernel
theorem dX8_clash_72 : decode cX8_clash 72 = .ok (.ireturn, 1) := by decide +kernel
theorem dX8_late_0 : decode cX8_late 0 = .ok (.aload_n 0, 1) := by decide +kernel
theorem dX8_late_1 : decode cX8_late 1 = .ok (.iload_n 1, 1) := by decide +kernel
theorem dX8_late_2 : decode cX8_late 2 = .ok (.invokevirtual 135, 3) := by decide +kernel
theorem dX8_late_5 : decode cX8_late 5 = .ok (.ifCond .eq 18, 3) := by decide +kernel
theorem dX8_late_8 : decode cX8_late 8 = .ok (.iload_n 2, 1) := by decide +kernel
theorem dX8_late_9 : decode cX8_late 9 = .ok (.ifCond .eq 14, 3) := by decide +kernel
theorem dX8_late_12 : decode cX8_late 12 = .ok (.iload_n 2, 1) := by decide +kernel
theorem dX8_late_13 : decode cX8_late 13 = .ok (.bipush (-20), 2) := by decide +kernel
theorem dX8_late_15 : decode cX8_late 15 = .ok (.bipush 60, 2) := by decide +kernel
theorem dX8_late_17 : decode cX8_late 17 = .ok (.invokestatic 58, 3) := by decide +kernel
theorem dX8_late_20 : decode cX8_late 20 = .ok (.ifCond .ne 5, 3) := by decide +kernel
theorem dX8_late_23 : decode cX8_late 23 = .ok (.iconst (-1), 1) := by decide +kernel
theorem dX8_late_24 : decode cX8_late 24 = .ok (.ireturn, 1) := by decide +kernel
theorem dX8_late_25 : decode cX8_late 25 = .ok (.aload_n 0, 1) := by decide +kernel
theorem dX8_late_26 : decode cX8_late 26 = .ok (.iload_n 1, 1) := by decide +kernel
theorem dX8_late_27 : decode cX8_late 27 = .ok (.iconst 2, 1) := by decide +kernel
theorem dX8_late_28 : decode cX8_late 28 = .ok (.invokevirtual 110, 3) := by decide +kernel
theorem dX8_late_31 : decode cX8_late 31 = .ok (.iload_n 2, 1) := by decide +kernel
theorem dX8_late_32 : decode cX8_late 32 = .ok (.iadd, 1) := by decide +kernel
theorem dX8_late_33 : decode cX8_late 33 = .ok (.iconst 1, 1) := by decide +kernel
theorem dX8_late_34 : decode cX8_late 34 = .ok (.if_icmp .lt 16, 3) := by decide +kernel
theorem dX8_late_37 : decode cX8_late 37 = .ok (.aload_n 0, 1) := by decide +kernel
theorem dX8_late_38 : decode cX8_late 38 = .ok (.iload_n 1, 1) := by decide +kernel
theorem dX8_late_39 : decode cX8_late 39 = .ok (.iconst 3, 1) := by decide +kernel
theorem dX8_late_40 : decode cX8_late 40 = .ok (.invokevirtual 110, 3) := by decide +kernel
theorem dX8_late_43 : decode cX8_late 43 = .ok (.iload_n 2, 1) := by decide +kernel
theorem dX8_late_44 : decode cX8_late 44 = .ok (.iadd, 1) := by decide +kernel
theorem dX8_late_45 : decode cX8_late 45 = .ok (.bipush 98, 2) := by decide +kernel
theorem dX8_late_47 : decode cX8_late 47 = .ok (.if_icmp .le 6, 3) := by decide +kernel
theorem dX8_late_50 : decode cX8_late 50 = .ok (.bipush (-2), 2) := by decide +kernel
theorem dX8_late_52 : decode cX8_late 52 = .ok (.ireturn, 1) := by decide +kernel
theorem dX8_late_53 : decode cX8_late 53 = .ok (.aload_n 0, 1) := by decide +kernel
theorem dX8_late_54 : decode cX8_late 54 = .ok (.invokevirtual 145, 3) := by decide +kernel
theorem dX8_late_57 : decode cX8_late 57 = .ok (.aload_n 0, 1) := by decide +kernel
theorem dX8_late_58 : decode cX8_late 58 = .ok (.iload_n 1, 1) := by decide +kernel
theorem dX8_late_59 : decode cX8_late 59 = .ok (.iconst 2, 1) := by decide +kernel
theorem dX8_late_60 : decode cX8_late 60 = .ok (.aload_n 0, 1) := by decide +kernel
theorem dX8_late_61 : decode cX8_late 61 = .ok (.iload_n 1, 1) := by decide +kernel
theorem dX8_late_62 : decode cX8_late 62 = .ok (.iconst 2, 1) := by decide +kernel
theorem dX8_late_63 : decode cX8_late 63 = .ok (.invokevirtual 110, 3) := by decide +kernel
theorem dX8_late_66 : decode cX8_late 66 = .ok (.iload_n 2, 1) := by decide +kernel
theorem dX8_late_67 : decode cX8_late 67 = .ok (.iadd, 1) := by decide +kernel
theorem dX8_late_68 : decode cX8_late 68 = .ok (.invokevirtual 148, 3) := by decide +kernel
theorem dX8_late_71 : decode cX8_late 71 = .ok (.aload_n 0, 1) := by decide +kernel
theorem dX8_late_72 : decode cX8_late 72 = .ok (.iload_n 1, 1) := by decide +kernel
theorem dX8_late_73 : decode cX8_late 73 = .ok (.iconst 3, 1) := by decide +kernel
theorem dX8_late_74 : decode cX8_late 74 = .ok (.aload_n 0, 1) := by decide +kernel
theorem dX8_late_75 : decode cX8_late 75 = .ok (.iload_n 1, 1) := by decide +kernel
theorem dX8_late_76 : decode cX8_late 76 = .ok (.iconst 3, 1) := by decide +kernel
theorem dX8_late_77 : decode cX8_late 77 = .ok (.invokevirtual 110, 3) := by decide +kernel
theorem dX8_late_80 : decode cX8_late 80 = .ok (.iload_n 2, 1) := by decide +kernel
theorem dX8_late_81 : decode cX8_late 81 = .ok (.iadd, 1) := by decide +kernel
theorem dX8_late_82 : decode cX8_late 82 = .ok (.invokevirtual 148, 3) := by decide +kernel
theorem dX8_late_85 : decode cX8_late 85 = .ok (.aload_n 0, 1) := by decide +kernel
theorem dX8_late_86 : decode cX8_late 86 = .ok (.iload_n 1, 1) := by decide +kernel
theorem dX8_late_87 : decode cX8_late 87 = .ok (.bipush 6, 2) := by decide +kernel
theorem dX8_late_89 : decode cX8_late 89 = .ok (.invokevirtual 110, 3) := by decide +kernel
theorem dX8_late_92 : decode cX8_late 92 = .ok (.bipush (-4), 2) := by decide +kernel
theorem dX8_late_94 : decode cX8_late 94 = .ok (.if_icmp .eq 20, 3) := by decide +kernel
theorem dX8_late_97 : decode cX8_late 97 = .ok (.aload_n 0, 1) := by decide +kernel
theorem dX8_late_98 : decode cX8_late 98 = .ok (.iload_n 1, 1) := by decide +kernel
theorem dX8_late_99 : decode cX8_late 99 = .ok (.aload_n 0, 1) := by decide +kernel
theorem dX8_late_100 : decode cX8_late 100 = .ok (.iload_n 1, 1) := by decide +kernel
theorem dX8_late_101 : decode cX8_late 101 = .ok (.bipush 6, 2) := by decide +kernel
theorem dX8_late_103 : decode cX8_late 103 = .ok (.invokevirtual 110, 3) := by decide +kernel
theorem dX8_late_106 : decode cX8_late 106 = .ok (.invokevirtual 126, 3) := by decide +kernel
theorem dX8_late_109 : decode cX8_late 109 = .ok (.bipush (-4), 2) := by decide +kernel
theorem dX8_late_111 : decode cX8_late 111 = .ok (.if_icmp .ne 5, 3) := by decide +kernel
theorem dX8_late_114 : decode cX8_late 114 = .ok (.iconst 0, 1) := by decide +kernel
theorem dX8_late_115 : decode cX8_late 115 = .ok (.ireturn, 1) := by decide +kernel
theorem dX8_late_116 : decode cX8_late 116 = .ok (.aload_n 0, 1) := by decide +kernel
theorem dX8_late_117 : decode cX8_late 117 = .ok (.iload_n 1, 1) := by decide +kernel
theorem dX8_late_118 : decode cX8_late 118 = .ok (.bipush 6, 2) := by decide +kernel
theorem dX8_late_120 : decode cX8_late 120 = .ok (.bipush (-4), 2) := by decide +kernel
theorem dX8_late_122 : decode cX8_late 122 = .ok (.invokevirtual 148, 3) := by decide +kernel
theorem dX8_late_125 : decode cX8_late 125 = .ok (.iconst 1, 1) := by decide +kernel
theorem dX8_late_126 : decode cX8_late 126 = .ok (.ireturn, 1) := by decide +kernel
theorem dX8_wish_0 : decode cX8_wish 0 = .ok (.aload_n 0, 1) := by decide +kernel
theorem dX8_wish_1 : decode cX8_wish 1 = .ok (.iload_n 1, 1) := by decide +kernel
theorem dX8_wish_2 : decode cX8_wish 2 = .ok (.invokevirtual 135, 3) := by decide +kernel
theorem dX8_wish_5 : decode cX8_wish 5 = .ok (.ifCond .eq 17, 3) := by decide +kernel
theorem dX8_wish_8 : decode cX8_wish 8 = .ok (.iload_n 2, 1) := by decide +kernel
theorem dX8_wish_9 : decode cX8_wish 9 = .ok (.bipush 9, 2) := by decide +kernel
theorem dX8_wish_11 : decode cX8_wish 11 = .ok (.if_icmp .eq 13, 3) := by decide +kernel
theorem dX8_wish_14 : decode cX8_wish 14 = .ok (.aload_n 0, 1) := by decide +kernel
theorem dX8_wish_15 : decode cX8_wish 15 = .ok (.iload_n 2, 1) := by decide +kernel
theorem dX8_wish_16 : decode cX8_wish 16 = .ok (.invokevirtual 102, 3) := by decide +kernel
theorem dX8_wish_19 : decode cX8_wish 19 = .ok (.ifCond .ne 5, 3) := by decide +kernel
theorem dX8_wish_22 : decode cX8_wish 22 = .ok (.iconst (-1), 1) := by decide +kernel
theorem dX8_wish_23 : decode cX8_wish 23 = .ok (.ireturn, 1) := by decide +kernel
theorem dX8_wish_24 : decode cX8_wish 24 = .ok (.iload_n 2, 1) := by decide +kernel
theorem dX8_wish_25 : decode cX8_wish 25 = .ok (.bipush 9, 2) := by decide +kernel
theorem dX8_wish_27 : decode cX8_wish 27 = .ok (.if_icmp .ne 8, 3) := by decide +kernel
theorem dX8_wish_30 : decode cX8_wish 30 = .ok (.bipush (-4), 2) := by decide +kernel
theorem dX8_wish_32 : decode cX8_wish 32 = .ok (.goto 4, 3) := by decide +kernel
theorem dX8_wish_35 : decode cX8_wish 35 = .ok (.iload_n 2, 1) := by decide +kernel
theorem dX8_wish_36 : decode cX8_wish 36 = .ok (.istore_n 3, 1) := by decide +kernel
theorem dX8_wish_37 : decode cX8_wish 37 = .ok (.aload_n 0, 1) := by decide +kernel
theorem dX8_wish_38 : decode cX8_wish 38 = .ok (.iload_n 1, 1) := by decide +kernel
theorem dX8_wish_39 : decode cX8_wish 39 = .ok (.iconst 4, 1) := by decide +kernel
theorem dX8_wish_40 : decode cX8_wish 40 = .ok (.invokevirtual 110, 3) := by decide +kernel
theorem dX8_wish_43 : decode cX8_wish 43 = .ok (.istore 4, 2) := by decide +kernel
theorem dX8_wish_45 : decode cX8_wish 45 = .ok (.iload 4, 2) := by decide +kernel
theorem dX8_wish_47 : decode cX8_wish 47 = .ok (.iload_n 3, 1) := by decide +kernel
theorem dX8_wish_48 : decode cX8_wish 48 = .ok (.if_icmp .ne 6, 3) := by decide +kernel
theorem dX8_wish_51 : decode cX8_wish 51 = .ok (.bipush (-2), 2) := by decide +kernel
theorem dX8_wish_53 : decode cX8_wish 53 = .ok (.ireturn, 1) := by decide +kernel
theorem dX8_wish_54 : decode cX8_wish 54 = .ok (.aload_n 0, 1) := by decide +kernel
theorem dX8_wish_55 : decode cX8_wish 55 = .ok (.invokevirtual 145, 3) := by decide +kernel
theorem dX8_wish_58 : decode cX8_wish 58 = .ok (.aload_n 0, 1) := by decide +kernel
theorem dX8_wish_59 : decode cX8_wish 59 = .ok (.iload_n 1, 1) := by decide +kernel
theorem dX8_wish_60 : decode cX8_wish 60 = .ok (.iconst 4, 1) := by decide +kernel
theorem dX8_wish_61 : decode cX8_wish 61 = .ok (.iload_n 3, 1) := by decide +kernel
theorem dX8_wish_62 : decode cX8_wish 62 = .ok (.invokevirtual 148, 3) := by decide +kernel
theorem dX8_wish_65 : decode cX8_wish 65 = .ok (.iload 4, 2) := by decide +kernel
theorem dX8_wish_67 : decode cX8_wish 67 = .ok (.bipush (-4), 2) := by decide +kernel
theorem dX8_wish_69 : decode cX8_wish 69 = .ok (.if_icmp .ne 8, 3) := by decide +kernel
theorem dX8_wish_72 : decode cX8_wish 72 = .ok (.bipush 9, 2) := by decide +kernel
theorem dX8_wish_74 : decode cX8_wish 74 = .ok (.goto 5, 3) := by decide +kernel
theorem dX8_wish_77 : decode cX8_wish 77 = .ok (.iload 4, 2) := by decide +kernel
theorem dX8_wish_79 : decode cX8_wish 79 = .ok (.ireturn, 1) := by decide +kernel
theorem dX8_laysClashes_0 : decode cX8_laysClashes 0 = .ok (.aload_n 0, 1) := by decide +kernel
theorem dX8_laysClashes_1 : decode cX8_laysClashes 1 = .ok (.getfield 7, 3) := by decide +kernel
theorem dX8_laysClashes_4 : decode cX8_laysClashes 4 = .ok (.iconst 1, 1) := by decide +kernel
theorem dX8_laysClashes_5 : decode cX8_laysClashes 5 = .ok (.iaload, 1) := by decide +kernel
theorem dX8_laysClashes_6 : decode cX8_laysClashes 6 = .ok (.istore_n 2, 1) := by decide +kernel
theorem dX8_laysClashes_7 : decode cX8_laysClashes 7 = .ok (.iconst 0, 1) := by decide +kernel
theorem dX8_laysClashes_8 : decode cX8_laysClashes 8 = .ok (.istore_n 3, 1) := by decide +kernel
theorem dX8_laysClashes_9 : decode cX8_laysClashes 9 = .ok (.iload_n 3, 1) := by decide +kernel
theorem dX8_laysClashes_10 : decode cX8_laysClashes 10 = .ok (.iconst 4, 1) := by decide +kernel
theorem dX8_laysClashes_11 : decode cX8_laysClashes 11 = .ok (.aload_n 0, 1) := by decide +kernel
theorem dX8_laysClashes_12 : decode cX8_laysClashes 12 = .ok (.getfield 7, 3) := by decide +kernel
theorem dX8_laysClashes_15 : decode cX8_laysClashes 15 = .ok (.iconst 2, 1) := by decide +kernel
theorem dX8_laysClashes_16 : decode cX8_laysClashes 16 = .ok (.iaload, 1) := by decide +kernel
theorem dX8_laysClashes_17 : decode cX8_laysClashes 17 = .ok (.imul, 1) := by decide +kernel
theorem dX8_laysClashes_18 : decode cX8_laysClashes 18 = .ok (.if_icmp .ge 73, 3) := by decide +kernel
theorem dX8_laysClashes_21 : decode cX8_laysClashes 21 = .ok (.iload_n 3, 1) := by decide +kernel
theorem dX8_laysClashes_22 : decode cX8_laysClashes 22 = .ok (.iconst 4, 1) := by decide +kernel
theorem dX8_laysClashes_23 : decode cX8_laysClashes 23 = .ok (.idiv, 1) := by decide +kernel
theorem dX8_laysClashes_24 : decode cX8_laysClashes 24 = .ok (.istore 4, 2) := by decide +kernel
theorem dX8_laysClashes_26 : decode cX8_laysClashes 26 = .ok (.iload_n 3, 1) := by decide +kernel
theorem dX8_laysClashes_27 : decode cX8_laysClashes 27 = .ok (.iconst 4, 1) := by decide +kernel
theorem dX8_laysClashes_28 : decode cX8_laysClashes 28 = .ok (.irem, 1) := by decide +kernel
theorem dX8_laysClashes_29 : decode cX8_laysClashes 29 = .ok (.istore 5, 2) := by decide +kernel
theorem dX8_laysClashes_31 : decode cX8_laysClashes 31 = .ok (.aload_n 0, 1) := by decide +kernel
theorem dX8_laysClashes_32 : decode cX8_laysClashes 32 = .ok (.getfield 25, 3) := by decide +kernel
theorem dX8_laysClashes_35 : decode cX8_laysClashes 35 = .ok (.iload_n 3, 1) := by decide +kernel
theorem dX8_laysClashes_36 : decode cX8_laysClashes 36 = .ok (.iload 5, 2) := by decide +kernel
theorem dX8_laysClashes_38 : decode cX8_laysClashes 38 = .ok (.iload_n 2, 1) := by decide +kernel
theorem dX8_laysClashes_39 : decode cX8_laysClashes 39 = .ok (.if_icmp .ge 44, 3) := by decide +kernel
theorem dX8_laysClashes_42 : decode cX8_laysClashes 42 = .ok (.aload_n 0, 1) := by decide +kernel
theorem dX8_laysClashes_43 : decode cX8_laysClashes 43 = .ok (.iload 4, 2) := by decide +kernel
theorem dX8_laysClashes_45 : decode cX8_laysClashes 45 = .ok (.iload 5, 2) := by decide +kernel
theorem dX8_laysClashes_47 : decode cX8_laysClashes 47 = .ok (.invokevirtual 129, 3) := by decide +kernel
theorem dX8_laysClashes_50 : decode cX8_laysClashes 50 = .ok (.ifCond .eq 33, 3) := by decide +kernel
theorem dX8_laysClashes_53 : decode cX8_laysClashes 53 = .ok (.aload_n 0, 1) := by decide +kernel
theorem dX8_laysClashes_54 : decode cX8_laysClashes 54 = .ok (.iload 4, 2) := by decide +kernel
theorem dX8_laysClashes_56 : decode cX8_laysClashes 56 = .ok (.iload 5, 2) := by decide +kernel
theorem dX8_laysClashes_58 : decode cX8_laysClashes 58 = .ok (.invokevirtual 113, 3) := by decide +kernel
theorem dX8_laysClashes_61 : decode cX8_laysClashes 61 = .ok (.iload_n 1, 1) := by decide +kernel
theorem dX8_laysClashes_62 : decode cX8_laysClashes 62 = .ok (.iand, 1) := by decide +kernel
theorem dX8_laysClashes_63 : decode cX8_laysClashes 63 = .ok (.ifCond .ne 20, 3) := by decide +kernel
theorem dX8_laysClashes_66 : decode cX8_laysClashes 66 = .ok (.aload_n 0, 1) := by decide +kernel
theorem dX8_laysClashes_67 : decode cX8_laysClashes 67 = .ok (.iload 4, 2) := by decide +kernel
theorem dX8_laysClashes_69 : decode cX8_laysClashes 69 = .ok (.iload 5, 2) := by decide +kernel
theorem dX8_laysClashes_71 : decode cX8_laysClashes 71 = .ok (.invokevirtual 116, 3) := by decide +kernel
theorem dX8_laysClashes_74 : decode cX8_laysClashes 74 = .ok (.iload_n 1, 1) := by decide +kernel
theorem dX8_laysClashes_75 : decode cX8_laysClashes 75 = .ok (.iand, 1) := by decide +kernel
theorem dX8_laysClashes_76 : decode cX8_laysClashes 76 = .ok (.ifCond .ne 7, 3) := by decide +kernel
theorem dX8_laysClashes_79 : decode cX8_laysClashes 79 = .ok (.iconst 1, 1) := by decide +kernel
theorem dX8_laysClashes_80 : decode cX8_laysClashes 80 = .ok (.goto 4, 3) := by decide +kernel
theorem dX8_laysClashes_83 : decode cX8_laysClashes 83 = .ok (.iconst 0, 1) := by decide +kernel
theorem dX8_laysClashes_84 : decode cX8_laysClashes 84 = .ok (.bastore, 1) := by decide +kernel
theorem dX8_laysClashes_85 : decode cX8_laysClashes 85 = .ok (.iinc 3 1, 3) := by decide +kernel
theorem dX8_laysClashes_88 : decode cX8_laysClashes 88 = .ok (.goto (-79), 3) := by decide +kernel
theorem dX8_laysClashes_91 : decode cX8_laysClashes 91 = .ok (.iconst 0, 1) := by decide +kernel
theorem dX8_laysClashes_92 : decode cX8_laysClashes 92 = .ok (.istore_n 3, 1) := by decide +kernel
theorem dX8_laysClashes_93 : decode cX8_laysClashes 93 = .ok (.iload_n 3, 1) := by decide +kernel
theorem dX8_laysClashes_94 : decode cX8_laysClashes 94 = .ok (.iconst 4, 1) := by decide +kernel
theorem dX8_laysClashes_95 : decode cX8_laysClashes 95 = .ok (.aload_n 0, 1) := by decide +kernel
theorem dX8_laysClashes_96 : decode cX8_laysClashes 96 = .ok (.getfield 7, 3) := by decide +kernel
theorem dX8_laysClashes_99 : decode cX8_laysClashes 99 = .ok (.iconst 2, 1) := by decide +kernel
theorem dX8_laysClashes_100 : decode cX8_laysClashes 100 = .ok (.iaload, 1) := by decide +kernel
theorem dX8_laysClashes_101 : decode cX8_laysClashes 101 = .ok (.imul, 1) := by decide +kernel
theorem dX8_laysClashes_102 : decode cX8_laysClashes 102 = .ok (.if_icmp .ge 103, 3) := by decide +kernel
theorem dX8_laysClashes_105 : decode cX8_laysClashes 105 = .ok (.iconst 0, 1) := by decide +kernel
theorem dX8_laysClashes_106 : decode cX8_laysClashes 106 = .ok (.istore 4, 2) := by decide +kernel
theorem dX8_laysClashes_108 : decode cX8_laysClashes 108 = .ok (.iload 4, 2) := by decide +kernel
theorem dX8_laysClashes_110 : decode cX8_laysClashes 110 = .ok (.iload_n 3, 1) := by decide +kernel
theorem dX8_laysClashes_111 : decode cX8_laysClashes 111 = .ok (.if_icmp .ge 88, 3) := by decide +kernel
theorem dX8_laysClashes_114 : decode cX8_laysClashes 114 = .ok (.aload_n 0, 1) := by decide +kernel
theorem dX8_laysClashes_115 : decode cX8_laysClashes 115 = .ok (.getfield 25, 3) := by decide +kernel
theorem dX8_laysClashes_118 : decode cX8_laysClashes 118 = .ok (.iload_n 3, 1) := by decide +kernel
theorem dX8_laysClashes_119 : decode cX8_laysClashes 119 = .ok (.baload, 1) := by decide +kernel
theorem dX8_laysClashes_120 : decode cX8_laysClashes 120 = .ok (.ifCond .eq 27, 3) := by decide +kernel
theorem dX8_laysClashes_123 : decode cX8_laysClashes 123 = .ok (.aload_n 0, 1) := by decide +kernel
theorem dX8_laysClashes_124 : decode cX8_laysClashes 124 = .ok (.getfield 25, 3) := by decide +kernel
theorem dX8_laysClashes_127 : decode cX8_laysClashes 127 = .ok (.iload 4, 2) := by decide +kernel
theorem dX8_laysClashes_129 : decode cX8_laysClashes 129 = .ok (.baload, 1) := by decide +kernel
theorem dX8_laysClashes_130 : decode cX8_laysClashes 130 = .ok (.ifCond .eq 17, 3) := by decide +kernel
theorem dX8_laysClashes_133 : decode cX8_laysClashes 133 = .ok (.iload_n 3, 1) := by decide +kernel
theorem dX8_laysClashes_134 : decode cX8_laysClashes 134 = .ok (.iconst 4, 1) := by decide +kernel
theorem dX8_laysClashes_135 : decode cX8_laysClashes 135 = .ok (.idiv, 1) := by decide +kernel
theorem dX8_laysClashes_136 : decode cX8_laysClashes 136 = .ok (.iload 4, 2) := by decide +kernel
theorem dX8_laysClashes_138 : decode cX8_laysClashes 138 = .ok (.iconst 4, 1) := by decide +kernel
theorem dX8_laysClashes_139 : decode cX8_laysClashes 139 = .ok (.idiv, 1) := by decide +kernel
theorem dX8_laysClashes_140 : decode cX8_laysClashes 140 = .ok (.if_icmp .eq 7, 3) := by decide +kernel
theorem dX8_laysClashes_143 : decode cX8_laysClashes 143 = .ok (.iconst 1, 1) := by decide +kernel
theorem dX8_laysClashes_144 : decode cX8_laysClashes 144 = .ok (.goto 4, 3) := by decide +kernel
theorem dX8_laysClashes_147 : decode cX8_laysClashes 147 = .ok (.iconst 0, 1) := by decide +kernel
theorem dX8_laysClashes_148 : decode cX8_laysClashes 148 = .ok (.istore 5, 2) := by decide +kernel
theorem dX8_laysClashes_150 : decode cX8_laysClashes 150 = .ok (.aload_n 0, 1) := by decide +kernel
theorem dX8_laysClashes_151 : decode cX8_laysClashes 151 = .ok (.getfield 29, 3) := by decide +kernel
theorem dX8_laysClashes_154 : decode cX8_laysClashes 154 = .ok (.bipush 28, 2) := by decide +kernel
theorem dX8_laysClashes_156 : decode cX8_laysClashes 156 = .ok (.iload_n 3, 1) := by decide +kernel
theorem dX8_laysClashes_157 : decode cX8_laysClashes 157 = .ok (.imul, 1) := by decide +kernel
theorem dX8_laysClashes_158 : decode cX8_laysClashes 158 = .ok (.iload 4, 2) := by decide +kernel
theorem dX8_laysClashes_160 : decode cX8_laysClashes 160 = .ok (.iadd, 1) := by decide +kernel
theorem dX8_laysClashes_161 : decode cX8_laysClashes 161 = .ok (.iload 5, 2) := by decide +kernel
theorem dX8_laysClashes_163 : decode cX8_laysClashes 163 = .ok (.ifCond .eq 28, 3) := by decide +kernel
theorem dX8_laysClashes_166 : decode cX8_laysClashes 166 = .ok (.aload_n 0, 1) := by decide +kernel
theorem dX8_laysClashes_167 : decode cX8_laysClashes 167 = .ok (.iload_n 3, 1) := by decide +kernel
theorem dX8_laysClashes_168 : decode cX8_laysClashes 168 = .ok (.iconst 4, 1) := by decide +kernel
theorem dX8_laysClashes_169 : decode cX8_laysClashes 169 = .ok (.idiv, 1) := by decide +kernel
theorem dX8_laysClashes_170 : decode cX8_laysClashes 170 = .ok (.iload_n 3, 1) := by decide +kernel
theorem dX8_laysClashes_171 : decode cX8_laysClashes 171 = .ok (.iconst 4, 1) := by decide +kernel
theorem dX8_laysClashes_172 : decode cX8_laysClashes 172 = .ok (.irem, 1) := by decide +kernel
theorem dX8_laysClashes_173 : decode cX8_laysClashes 173 = .ok (.iload 4, 2) := by decide +kernel
theorem dX8_laysClashes_175 : decode cX8_laysClashes 175 = .ok (.iconst 4, 1) := by decide +kernel
theorem dX8_laysClashes_176 : decode cX8_laysClashes 176 = .ok (.idiv, 1) := by decide +kernel
theorem dX8_laysClashes_177 : decode cX8_laysClashes 177 = .ok (.iload 4, 2) := by decide +kernel
theorem dX8_laysClashes_179 : decode cX8_laysClashes 179 = .ok (.iconst 4, 1) := by decide +kernel
theorem dX8_laysClashes_180 : decode cX8_laysClashes 180 = .ok (.irem, 1) := by decide +kernel
theorem dX8_laysClashes_181 : decode cX8_laysClashes 181 = .ok (.invokevirtual 122, 3) := by decide +kernel
theorem dX8_laysClashes_184 : decode cX8_laysClashes 184 = .ok (.ifCond .le 7, 3) := by decide +kernel
theorem dX8_laysClashes_187 : decode cX8_laysClashes 187 = .ok (.iconst 1, 1) := by decide +kernel
theorem dX8_laysClashes_188 : decode cX8_laysClashes 188 = .ok (.goto 4, 3) := by decide +kernel
theorem dX8_laysClashes_191 : decode cX8_laysClashes 191 = .ok (.iconst 0, 1) := by decide +kernel
theorem dX8_laysClashes_192 : decode cX8_laysClashes 192 = .ok (.bastore, 1) := by decide +kernel
theorem dX8_laysClashes_193 : decode cX8_laysClashes 193 = .ok (.iinc 4 1, 3) := by decide +kernel
theorem dX8_laysClashes_196 : decode cX8_laysClashes 196 = .ok (.goto (-88), 3) := by decide +kernel
theorem dX8_laysClashes_199 : decode cX8_laysClashes 199 = .ok (.iinc 3 1, 3) := by decide +kernel
theorem dX8_laysClashes_202 : decode cX8_laysClashes 202 = .ok (.goto (-109), 3) := by decide +kernel
theorem dX8_laysClashes_205 : decode cX8_laysClashes 205 = .ok (.return_, 1) := by decide +kernel
theorem dX8_may_0 : decode cX8_may 0 = .ok (.iload_n 2, 1) := by decide +kernel
theorem dX8_may_1 : decode cX8_may 1 = .ok (.iconst 4, 1) := by decide +kernel
theorem dX8_may_2 : decode cX8_may 2 = .ok (.if_icmp .eq 16, 3) := by decide +kernel
theorem dX8_may_5 : decode cX8_may 5 = .ok (.aload_n 0, 1) := by decide +kernel
theorem dX8_may_6 : decode cX8_may 6 = .ok (.getfield 25, 3) := by decide +kernel
theorem dX8_may_9 : decode cX8_may 9 = .ok (.iconst 4, 1) := by decide +kernel
theorem dX8_may_10 : decode cX8_may 10 = .ok (.iload_n 1, 1) := by decide +kernel
theorem dX8_may_11 : decode cX8_may 11 = .ok (.imul, 1) := by decide +kernel
theorem dX8_may_12 : decode cX8_may 12 = .ok (.iload_n 2, 1) := by decide +kernel
theorem dX8_may_13 : decode cX8_may 13 = .ok (.iadd, 1) := by decide +kernel
theorem dX8_may_14 : decode cX8_may 14 = .ok (.baload, 1) := by decide +kernel
theorem dX8_may_15 : decode cX8_may 15 = .ok (.ifCond .eq 7, 3) := by decide +kernel
theorem dX8_may_18 : decode cX8_may 18 = .ok (.iconst 1, 1) := by decide +kernel
theorem dX8_may_19 : decode cX8_may 19 = .ok (.goto 4, 3) := by decide +kernel
theorem dX8_may_22 : decode cX8_may 22 = .ok (.iconst 0, 1) := by decide +kernel
theorem dX8_may_23 : decode cX8_may 23 = .ok (.istore_n 3, 1) := by decide +kernel
theorem dX8_may_24 : decode cX8_may 24 = .ok (.iconst 0, 1) := by decide +kernel
theorem dX8_may_25 : decode cX8_may 25 = .ok (.istore 4, 2) := by decide +kernel
theorem dX8_may_27 : decode cX8_may 27 = .ok (.iload 4, 2) := by decide +kernel
theorem dX8_may_29 : decode cX8_may 29 = .ok (.iload_n 1, 1) := by decide +kernel
theorem dX8_may_30 : decode cX8_may 30 = .ok (.if_icmp .ge 64, 3) := by decide +kernel
theorem dX8_may_33 : decode cX8_may 33 = .ok (.iload_n 3, 1) := by decide +kernel
theorem dX8_may_34 : decode cX8_may 34 = .ok (.ifCond .eq 60, 3) := by decide +kernel
theorem dX8_may_37 : decode cX8_may 37 = .ok (.iload_n 2, 1) := by decide +kernel
theorem dX8_may_38 : decode cX8_may 38 = .ok (.iconst 4, 1) := by decide +kernel
theorem dX8_may_39 : decode cX8_may 39 = .ok (.if_icmp .ge 55, 3) := by decide +kernel
theorem dX8_may_42 : decode cX8_may 42 = .ok (.aload_n 0, 1) := by decide +kernel
theorem dX8_may_43 : decode cX8_may 43 = .ok (.getfield 32, 3) := by decide +kernel
theorem dX8_may_46 : decode cX8_may 46 = .ok (.iload 4, 2) := by decide +kernel
theorem dX8_may_48 : decode cX8_may 48 = .ok (.iaload, 1) := by decide +kernel
theorem dX8_may_49 : decode cX8_may 49 = .ok (.iconst 4, 1) := by decide +kernel
theorem dX8_may_50 : decode cX8_may 50 = .ok (.if_icmp .eq 32, 3) := by decide +kernel
theorem dX8_may_53 : decode cX8_may 53 = .ok (.aload_n 0, 1) := by decide +kernel
theorem dX8_may_54 : decode cX8_may 54 = .ok (.getfield 29, 3) := by decide +kernel
theorem dX8_may_57 : decode cX8_may 57 = .ok (.bipush 28, 2) := by decide +kernel
theorem dX8_may_59 : decode cX8_may 59 = .ok (.iconst 4, 1) := by decide +kernel
theorem dX8_may_60 : decode cX8_may 60 = .ok (.iload_n 1, 1) := by decide +kernel
theorem dX8_may_61 : decode cX8_may 61 = .ok (.imul, 1) := by decide +kernel
theorem dX8_may_62 : decode cX8_may 62 = .ok (.iload_n 2, 1) := by decide +kernel
theorem dX8_may_63 : decode cX8_may 63 = .ok (.iadd, 1) := by decide +kernel
theorem dX8_may_64 : decode cX8_may 64 = .ok (.imul, 1) := by decide +kernel
theorem dX8_may_65 : decode cX8_may 65 = .ok (.iconst 4, 1) := by decide +kernel
theorem dX8_may_66 : decode cX8_may 66 = .ok (.iload 4, 2) := by decide +kernel
theorem dX8_may_68 : decode cX8_may 68 = .ok (.imul, 1) := by decide +kernel
theorem dX8_may_69 : decode cX8_may 69 = .ok (.iadd, 1) := by decide +kernel
theorem dX8_may_70 : decode cX8_may 70 = .ok (.aload_n 0, 1) := by decide +kernel
theorem dX8_may_71 : decode cX8_may 71 = .ok (.getfield 32, 3) := by decide +kernel
theorem dX8_may_74 : decode cX8_may 74 = .ok (.iload 4, 2) := by decide +kernel
theorem dX8_may_76 : decode cX8_may 76 = .ok (.iaload, 1) := by decide +kernel
theorem dX8_may_77 : decode cX8_may 77 = .ok (.iadd, 1) := by decide +kernel
theorem dX8_may_78 : decode cX8_may 78 = .ok (.baload, 1) := by decide +kernel
theorem dX8_may_79 : decode cX8_may 79 = .ok (.ifCond .ne 7, 3) := by decide +kernel
theorem dX8_may_82 : decode cX8_may 82 = .ok (.iconst 1, 1) := by decide +kernel
theorem dX8_may_83 : decode cX8_may 83 = .ok (.goto 4, 3) := by decide +kernel
theorem dX8_may_86 : decode cX8_may 86 = .ok (.iconst 0, 1) := by decide +kernel
theorem dX8_may_87 : decode cX8_may 87 = .ok (.istore_n 3, 1) := by decide +kernel
theorem dX8_may_88 : decode cX8_may 88 = .ok (.iinc 4 1, 3) := by decide +kernel
theorem dX8_may_91 : decode cX8_may 91 = .ok (.goto (-64), 3) := by decide +kernel
theorem dX8_may_94 : decode cX8_may 94 = .ok (.iload_n 3, 1) := by decide +kernel
theorem dX8_may_95 : decode cX8_may 95 = .ok (.ireturn, 1) := by decide +kernel
theorem dX8_asTrack_0 : decode cX8_asTrack 0 = .ok (.iload_n 0, 1) := by decide +kernel
theorem dX8_asTrack_1 : decode cX8_asTrack 1 = .ok (.iconst 4, 1) := by decide +kernel
theorem dX8_asTrack_2 : decode cX8_asTrack 2 = .ok (.if_icmp .ne 8, 3) := by decide +kernel
theorem dX8_asTrack_5 : decode cX8_asTrack 5 = .ok (.bipush (-4), 2) := by decide +kernel
theorem dX8_asTrack_7 : decode cX8_asTrack 7 = .ok (.goto 4, 3) := by decide +kernel
theorem dX8_asTrack_10 : decode cX8_asTrack 10 = .ok (.iload_n 0, 1) := by decide +kernel
theorem dX8_asTrack_11 : decode cX8_asTrack 11 = .ok (.ireturn, 1) := by decide +kernel
theorem dX8_like_0 : decode cX8_like 0 = .ok (.iconst 0, 1) := by decide +kernel
theorem dX8_like_1 : decode cX8_like 1 = .ok (.istore_n 3, 1) := by decide +kernel
theorem dX8_like_2 : decode cX8_like 2 = .ok (.iconst 0, 1) := by decide +kernel
theorem dX8_like_3 : decode cX8_like 3 = .ok (.istore 4, 2) := by decide +kernel
theorem dX8_like_5 : decode cX8_like 5 = .ok (.iload 4, 2) := by decide +kernel
theorem dX8_like_7 : decode cX8_like 7 = .ok (.iload_n 2, 1) := by decide +kernel
theorem dX8_like_8 : decode cX8_like 8 = .ok (.if_icmp .ge 73, 3) := by decide +kernel
theorem dX8_like_11 : decode cX8_like 11 = .ok (.aload_n 0, 1) := by decide +kernel
theorem dX8_like_12 : decode cX8_like 12 = .ok (.getfield 32, 3) := by decide +kernel
theorem dX8_like_15 : decode cX8_like 15 = .ok (.iload 4, 2) := by decide +kernel
theorem dX8_like_17 : decode cX8_like 17 = .ok (.iaload, 1) := by decide +kernel
theorem dX8_like_18 : decode cX8_like 18 = .ok (.invokestatic 155, 3) := by decide +kernel
theorem dX8_like_21 : decode cX8_like 21 = .ok (.istore 5, 2) := by decide +kernel
theorem dX8_like_23 : decode cX8_like 23 = .ok (.iload_n 3, 1) := by decide +kernel
theorem dX8_like_24 : decode cX8_like 24 = .ok (.iload_n 1, 1) := by decide +kernel
theorem dX8_like_25 : decode cX8_like 25 = .ok (.ifCond .ne 30, 3) := by decide +kernel
theorem dX8_like_28 : decode cX8_like 28 = .ok (.iload 5, 2) := by decide +kernel
theorem dX8_like_30 : decode cX8_like 30 = .ok (.bipush (-4), 2) := by decide +kernel
theorem dX8_like_32 : decode cX8_like 32 = .ok (.if_icmp .eq 19, 3) := by decide +kernel
theorem dX8_like_35 : decode cX8_like 35 = .ok (.iload 5, 2) := by decide +kernel
theorem dX8_like_37 : decode cX8_like 37 = .ok (.aload_n 0, 1) := by decide +kernel
theorem dX8_like_38 : decode cX8_like 38 = .ok (.iload 4, 2) := by decide +kernel
theorem dX8_like_40 : decode cX8_like 40 = .ok (.iconst 4, 1) := by decide +kernel
theorem dX8_like_41 : decode cX8_like 41 = .ok (.invokevirtual 110, 3) := by decide +kernel
theorem dX8_like_44 : decode cX8_like 44 = .ok (.if_icmp .ne 7, 3) := by decide +kernel
theorem dX8_like_47 : decode cX8_like 47 = .ok (.iconst 1, 1) := by decide +kernel
theorem dX8_like_48 : decode cX8_like 48 = .ok (.goto 25, 3) := by decide +kernel
theorem dX8_like_51 : decode cX8_like 51 = .ok (.iconst 0, 1) := by decide +kernel
theorem dX8_like_52 : decode cX8_like 52 = .ok (.goto 21, 3) := by decide +kernel
theorem dX8_like_55 : decode cX8_like 55 = .ok (.iload 5, 2) := by decide +kernel
theorem dX8_like_57 : decode cX8_like 57 = .ok (.aload_n 0, 1) := by decide +kernel
theorem dX8_like_58 : decode cX8_like 58 = .ok (.iload 4, 2) := by decide +kernel
theorem dX8_like_60 : decode cX8_like 60 = .ok (.bipush 6, 2) := by decide +kernel
theorem dX8_like_62 : decode cX8_like 62 = .ok (.invokevirtual 110, 3) := by decide +kernel
theorem dX8_like_65 : decode cX8_like 65 = .ok (.if_icmp .ne 7, 3) := by decide +kernel
theorem dX8_like_68 : decode cX8_like 68 = .ok (.iconst 1, 1) := by decide +kernel
theorem dX8_like_69 : decode cX8_like 69 = .ok (.goto 4, 3) := by decide +kernel
theorem dX8_like_72 : decode cX8_like 72 = .ok (.iconst 0, 1) := by decide +kernel
theorem dX8_like_73 : decode cX8_like 73 = .ok (.iadd, 1) := by decide +kernel
theorem dX8_like_74 : decode cX8_like 74 = .ok (.istore_n 3, 1) := by decide +kernel
theorem dX8_like_75 : decode cX8_like 75 = .ok (.iinc 4 1, 3) := by decide +kernel
theorem dX8_like_78 : decode cX8_like 78 = .ok (.goto (-73), 3) := by decide +kernel
theorem dX8_like_81 : decode cX8_like 81 = .ok (.iload_n 3, 1) := by decide +kernel
theorem dX8_like_82 : decode cX8_like 82 = .ok (.ireturn, 1) := by decide +kernel
theorem dX8_noneOf_0 : decode cX8_noneOf 0 = .ok (.iconst 0, 1) := by decide +kernel
theorem dX8_noneOf_1 : decode cX8_noneOf 1 = .ok (.istore_n 2, 1) := by decide +kernel
theorem dX8_noneOf_2 : decode cX8_noneOf 2 = .ok (.iconst 0, 1) := by decide +kernel
theorem dX8_noneOf_3 : decode cX8_noneOf 3 = .ok (.istore_n 3, 1) := by decide +kernel
theorem dX8_noneOf_4 : decode cX8_noneOf 4 = .ok (.iload_n 3, 1) := by decide +kernel
theorem dX8_noneOf_5 : decode cX8_noneOf 5 = .ok (.iload_n 1, 1) := by decide +kernel
theorem dX8_noneOf_6 : decode cX8_noneOf 6 = .ok (.if_icmp .ge 27, 3) := by decide +kernel
theorem dX8_noneOf_9 : decode cX8_noneOf 9 = .ok (.iload_n 2, 1) := by decide +kernel
theorem dX8_noneOf_10 : decode cX8_noneOf 10 = .ok (.aload_n 0, 1) := by decide +kernel
theorem dX8_noneOf_11 : decode cX8_noneOf 11 = .ok (.getfield 32, 3) := by decide +kernel
theorem dX8_noneOf_14 : decode cX8_noneOf 14 = .ok (.iload_n 3, 1) := by decide +kernel
theorem dX8_noneOf_15 : decode cX8_noneOf 15 = .ok (.iaload, 1) := by decide +kernel
theorem dX8_noneOf_16 : decode cX8_noneOf 16 = .ok (.iconst 4, 1) := by decide +kernel
theorem dX8_noneOf_17 : decode cX8_noneOf 17 = .ok (.if_icmp .ne 7, 3) := by decide +kernel
theorem dX8_noneOf_20 : decode cX8_noneOf 20 = .ok (.iconst 1, 1) := by decide +kernel
theorem dX8_noneOf_21 : decode cX8_noneOf 21 = .ok (.goto 4, 3) := by decide +kernel
theorem dX8_noneOf_24 : decode cX8_noneOf 24 = .ok (.iconst 0, 1) := by decide +kernel
theorem dX8_noneOf_25 : decode cX8_noneOf 25 = .ok (.iadd, 1) := by decide +kernel
theorem dX8_noneOf_26 : decode cX8_noneOf 26 = .ok (.istore_n 2, 1) := by decide +kernel
theorem dX8_noneOf_27 : decode cX8_noneOf 27 = .ok (.iinc 3 1, 3) := by decide +kernel
theorem dX8_noneOf_30 : decode cX8_noneOf 30 = .ok (.goto (-26), 3) := by decide +kernel
theorem dX8_noneOf_33 : decode cX8_noneOf 33 = .ok (.iload_n 2, 1) := by decide +kernel
theorem dX8_noneOf_34 : decode cX8_noneOf 34 = .ok (.ireturn, 1) := by decide +kernel
theorem dX8_takesIfBetter_0 : decode cX8_takesIfBetter 0 = .ok (.aload_n 0, 1) := by decide +kernel
theorem dX8_takesIfBetter_1 : decode cX8_takesIfBetter 1 = .ok (.getfield 7, 3) := by decide +kernel
theorem dX8_takesIfBetter_4 : decode cX8_takesIfBetter 4 = .ok (.iconst 2, 1) := by decide +kernel
theorem dX8_takesIfBetter_5 : decode cX8_takesIfBetter 5 = .ok (.iaload, 1) := by decide +kernel
theorem dX8_takesIfBetter_6 : decode cX8_takesIfBetter 6 = .ok (.istore_n 2, 1) := by decide +kernel
theorem dX8_takesIfBetter_7 : decode cX8_takesIfBetter 7 = .ok (.aload_n 0, 1) := by decide +kernel
theorem dX8_takesIfBetter_8 : decode cX8_takesIfBetter 8 = .ok (.iload_n 2, 1) := by decide +kernel
theorem dX8_takesIfBetter_9 : decode cX8_takesIfBetter 9 = .ok (.invokevirtual 158, 3) := by decide +kernel
theorem dX8_takesIfBetter_12 : decode cX8_takesIfBetter 12 = .ok (.istore_n 3, 1) := by decide +kernel
theorem dX8_takesIfBetter_13 : decode cX8_takesIfBetter 13 = .ok (.aload_n 0, 1) := by decide +kernel
theorem dX8_takesIfBetter_14 : decode cX8_takesIfBetter 14 = .ok (.iload_n 1, 1) := by decide +kernel
theorem dX8_takesIfBetter_15 : decode cX8_takesIfBetter 15 = .ok (.iload_n 2, 1) := by decide +kernel
theorem dX8_takesIfBetter_16 : decode cX8_takesIfBetter 16 = .ok (.invokevirtual 161, 3) := by decide +kernel
theorem dX8_takesIfBetter_19 : decode cX8_takesIfBetter 19 = .ok (.istore 4, 2) := by decide +kernel
theorem dX8_takesIfBetter_21 : decode cX8_takesIfBetter 21 = .ok (.iload_n 3, 1) := by decide +kernel
theorem dX8_takesIfBetter_22 : decode cX8_takesIfBetter 22 = .ok (.aload_n 0, 1) := by decide +kernel
theorem dX8_takesIfBetter_23 : decode cX8_takesIfBetter 23 = .ok (.getfield 164, 3) := by decide +kernel
theorem dX8_takesIfBetter_26 : decode cX8_takesIfBetter 26 = .ok (.if_icmp .lt 20, 3) := by decide +kernel
theorem dX8_takesIfBetter_29 : decode cX8_takesIfBetter 29 = .ok (.iload_n 3, 1) := by decide +kernel
theorem dX8_takesIfBetter_30 : decode cX8_takesIfBetter 30 = .ok (.aload_n 0, 1) := by decide +kernel
theorem dX8_takesIfBetter_31 : decode cX8_takesIfBetter 31 = .ok (.getfield 164, 3) := by decide +kernel
theorem dX8_takesIfBetter_34 : decode cX8_takesIfBetter 34 = .ok (.if_icmp .ne 52, 3) := by decide +kernel
theorem dX8_takesIfBetter_37 : decode cX8_takesIfBetter 37 = .ok (.iload 4, 2) := by decide +kernel
theorem dX8_takesIfBetter_39 : decode cX8_takesIfBetter 39 = .ok (.aload_n 0, 1) := by decide +kernel
theorem dX8_takesIfBetter_40 : decode cX8_takesIfBetter 40 = .ok (.getfield 167, 3) := by decide +kernel
theorem dX8_takesIfBetter_43 : decode cX8_takesIfBetter 43 = .ok (.if_icmp .le 43, 3) := by decide +kernel
theorem dX8_takesIfBetter_46 : decode cX8_takesIfBetter 46 = .ok (.aload_n 0, 1) := by decide +kernel
theorem dX8_takesIfBetter_47 : decode cX8_takesIfBetter 47 = .ok (.iload_n 3, 1) := by decide +kernel
theorem dX8_takesIfBetter_48 : decode cX8_takesIfBetter 48 = .ok (.putfield 164, 3) := by decide +kernel
theorem dX8_takesIfBetter_51 : decode cX8_takesIfBetter 51 = .ok (.aload_n 0, 1) := by decide +kernel
theorem dX8_takesIfBetter_52 : decode cX8_takesIfBetter 52 = .ok (.iload 4, 2) := by decide +kernel
theorem dX8_takesIfBetter_54 : decode cX8_takesIfBetter 54 = .ok (.putfield 167, 3) := by decide +kernel
theorem dX8_takesIfBetter_57 : decode cX8_takesIfBetter 57 = .ok (.iconst 0, 1) := by decide +kernel
theorem dX8_takesIfBetter_58 : decode cX8_takesIfBetter 58 = .ok (.istore 5, 2) := by decide +kernel
theorem dX8_takesIfBetter_60 : decode cX8_takesIfBetter 60 = .ok (.iload 5, 2) := by decide +kernel
theorem dX8_takesIfBetter_62 : decode cX8_takesIfBetter 62 = .ok (.iload_n 2, 1) := by decide +kernel
theorem dX8_takesIfBetter_63 : decode cX8_takesIfBetter 63 = .ok (.if_icmp .ge 23, 3) := by decide +kernel
theorem dX8_takesIfBetter_66 : decode cX8_takesIfBetter 66 = .ok (.aload_n 0, 1) := by decide +kernel
theorem dX8_takesIfBetter_67 : decode cX8_takesIfBetter 67 = .ok (.getfield 35, 3) := by decide +kernel
theorem dX8_takesIfBetter_70 : decode cX8_takesIfBetter 70 = .ok (.iload 5, 2) := by decide +kernel
theorem dX8_takesIfBetter_72 : decode cX8_takesIfBetter 72 = .ok (.aload_n 0, 1) := by decide +kernel
theorem dX8_takesIfBetter_73 : decode cX8_takesIfBetter 73 = .ok (.getfield 32, 3) := by decide +kernel
theorem dX8_takesIfBetter_76 : decode cX8_takesIfBetter 76 = .ok (.iload 5, 2) := by decide +kernel
theorem dX8_takesIfBetter_78 : decode cX8_takesIfBetter 78 = .ok (.iaload, 1) := by decide +kernel
theorem dX8_takesIfBetter_79 : decode cX8_takesIfBetter 79 = .ok (.iastore, 1) := by decide +kernel
theorem dX8_takesIfBetter_80 : decode cX8_takesIfBetter 80 = .ok (.iinc 5 1, 3) := by decide +kernel
theorem dX8_takesIfBetter_83 : decode cX8_takesIfBetter 83 = .ok (.goto (-23), 3) := by decide +kernel
theorem dX8_takesIfBetter_86 : decode cX8_takesIfBetter 86 = .ok (.return_, 1) := by decide +kernel
theorem dX8_isWorth_0 : decode cX8_isWorth 0 = .ok (.aload_n 0, 1) := by decide +kernel
theorem dX8_isWorth_1 : decode cX8_isWorth 1 = .ok (.iload_n 2, 1) := by decide +kernel
theorem dX8_isWorth_2 : decode cX8_isWorth 2 = .ok (.invokevirtual 158, 3) := by decide +kernel
theorem dX8_isWorth_5 : decode cX8_isWorth 5 = .ok (.istore_n 3, 1) := by decide +kernel
theorem dX8_isWorth_6 : decode cX8_isWorth 6 = .ok (.iload_n 3, 1) := by decide +kernel
theorem dX8_isWorth_7 : decode cX8_isWorth 7 = .ok (.aload_n 0, 1) := by decide +kernel
theorem dX8_isWorth_8 : decode cX8_isWorth 8 = .ok (.getfield 164, 3) := by decide +kernel
theorem dX8_isWorth_11 : decode cX8_isWorth 11 = .ok (.if_icmp .lt 33, 3) := by decide +kernel
theorem dX8_isWorth_14 : decode cX8_isWorth 14 = .ok (.iload_n 3, 1) := by decide +kernel
theorem dX8_isWorth_15 : decode cX8_isWorth 15 = .ok (.aload_n 0, 1) := by decide +kernel
theorem dX8_isWorth_16 : decode cX8_isWorth 16 = .ok (.getfield 164, 3) := by decide +kernel
theorem dX8_isWorth_19 : decode cX8_isWorth 19 = .ok (.if_icmp .ne 29, 3) := by decide +kernel
theorem dX8_isWorth_22 : decode cX8_isWorth 22 = .ok (.aload_n 0, 1) := by decide +kernel
theorem dX8_isWorth_23 : decode cX8_isWorth 23 = .ok (.iload_n 1, 1) := by decide +kernel
theorem dX8_isWorth_24 : decode cX8_isWorth 24 = .ok (.iload_n 2, 1) := by decide +kernel
theorem dX8_isWorth_25 : decode cX8_isWorth 25 = .ok (.invokevirtual 161, 3) := by decide +kernel
theorem dX8_isWorth_28 : decode cX8_isWorth 28 = .ok (.aload_n 0, 1) := by decide +kernel
theorem dX8_isWorth_29 : decode cX8_isWorth 29 = .ok (.getfield 7, 3) := by decide +kernel
theorem dX8_isWorth_32 : decode cX8_isWorth 32 = .ok (.iconst 2, 1) := by decide +kernel
theorem dX8_isWorth_33 : decode cX8_isWorth 33 = .ok (.iaload, 1) := by decide +kernel
theorem dX8_isWorth_34 : decode cX8_isWorth 34 = .ok (.iadd, 1) := by decide +kernel
theorem dX8_isWorth_35 : decode cX8_isWorth 35 = .ok (.iload_n 2, 1) := by decide +kernel
theorem dX8_isWorth_36 : decode cX8_isWorth 36 = .ok (.isub, 1) := by decide +kernel
theorem dX8_isWorth_37 : decode cX8_isWorth 37 = .ok (.aload_n 0, 1) := by decide +kernel
theorem dX8_isWorth_38 : decode cX8_isWorth 38 = .ok (.getfield 167, 3) := by decide +kernel
theorem dX8_isWorth_41 : decode cX8_isWorth 41 = .ok (.if_icmp .le 7, 3) := by decide +kernel
theorem dX8_isWorth_44 : decode cX8_isWorth 44 = .ok (.iconst 1, 1) := by decide +kernel
theorem dX8_isWorth_45 : decode cX8_isWorth 45 = .ok (.goto 4, 3) := by decide +kernel
theorem dX8_isWorth_48 : decode cX8_isWorth 48 = .ok (.iconst 0, 1) := by decide +kernel
theorem dX8_isWorth_49 : decode cX8_isWorth 49 = .ok (.ireturn, 1) := by decide +kernel
theorem dX8_findsWay_0 : decode cX8_findsWay 0 = .ok (.aload_n 0, 1) := by decide +kernel
theorem dX8_findsWay_1 : decode cX8_findsWay 1 = .ok (.iload_n 2, 1) := by decide +kernel
theorem dX8_findsWay_2 : decode cX8_findsWay 2 = .ok (.invokevirtual 170, 3) := by decide +kernel
theorem dX8_findsWay_5 : decode cX8_findsWay 5 = .ok (.aload_n 0, 1) := by decide +kernel
theorem dX8_findsWay_6 : decode cX8_findsWay 6 = .ok (.getfield 7, 3) := by decide +kernel
theorem dX8_findsWay_9 : decode cX8_findsWay 9 = .ok (.iconst 2, 1) := by decide +kernel
theorem dX8_findsWay_10 : decode cX8_findsWay 10 = .ok (.iaload, 1) := by decide +kernel
theorem dX8_findsWay_11 : decode cX8_findsWay 11 = .ok (.istore_n 3, 1) := by decide +kernel
theorem dX8_findsWay_12 : decode cX8_findsWay 12 = .ok (.aload_n 0, 1) := by decide +kernel
theorem dX8_findsWay_13 : decode cX8_findsWay 13 = .ok (.iload_n 3, 1) := by decide +kernel
theorem dX8_findsWay_14 : decode cX8_findsWay 14 = .ok (.iconst 1, 1) := by decide +kernel
theorem dX8_findsWay_15 : decode cX8_findsWay 15 = .ok (.iadd, 1) := by decide +kernel
theorem dX8_findsWay_16 : decode cX8_findsWay 16 = .ok (.putfield 164, 3) := by decide +kernel
theorem dX8_findsWay_19 : decode cX8_findsWay 19 = .ok (.aload_n 0, 1) := by decide +kernel
theorem dX8_findsWay_20 : decode cX8_findsWay 20 = .ok (.iconst 0, 1) := by decide +kernel
theorem dX8_findsWay_21 : decode cX8_findsWay 21 = .ok (.putfield 167, 3) := by decide +kernel
theorem dX8_findsWay_24 : decode cX8_findsWay 24 = .ok (.iload_n 3, 1) := by decide +kernel
theorem dX8_findsWay_25 : decode cX8_findsWay 25 = .ok (.ifCond .ne 9, 3) := by decide +kernel
theorem dX8_findsWay_28 : decode cX8_findsWay 28 = .ok (.aload_n 0, 1) := by decide +kernel
theorem dX8_findsWay_29 : decode cX8_findsWay 29 = .ok (.iload_n 1, 1) := by decide +kernel
theorem dX8_findsWay_30 : decode cX8_findsWay 30 = .ok (.invokevirtual 174, 3) := by decide +kernel
theorem dX8_findsWay_33 : decode cX8_findsWay 33 = .ok (.return_, 1) := by decide +kernel
theorem dX8_findsWay_34 : decode cX8_findsWay 34 = .ok (.iconst 0, 1) := by decide +kernel
theorem dX8_findsWay_35 : decode cX8_findsWay 35 = .ok (.istore 4, 2) := by decide +kernel
theorem dX8_findsWay_37 : decode cX8_findsWay 37 = .ok (.aload_n 0, 1) := by decide +kernel
theorem dX8_findsWay_38 : decode cX8_findsWay 38 = .ok (.getfield 32, 3) := by decide +kernel
theorem dX8_findsWay_41 : decode cX8_findsWay 41 = .ok (.iconst 0, 1) := by decide +kernel
theorem dX8_findsWay_42 : decode cX8_findsWay 42 = .ok (.iconst (-1), 1) := by decide +kernel
theorem dX8_findsWay_43 : decode cX8_findsWay 43 = .ok (.iastore, 1) := by decide +kernel
theorem dX8_findsWay_44 : decode cX8_findsWay 44 = .ok (.iload 4, 2) := by decide +kernel
theorem dX8_findsWay_46 : decode cX8_findsWay 46 = .ok (.ifCond .lt 89, 3) := by decide +kernel
theorem dX8_findsWay_49 : decode cX8_findsWay 49 = .ok (.aload_n 0, 1) := by decide +kernel
theorem dX8_findsWay_50 : decode cX8_findsWay 50 = .ok (.getfield 32, 3) := by decide +kernel
theorem dX8_findsWay_53 : decode cX8_findsWay 53 = .ok (.iload 4, 2) := by decide +kernel
theorem dX8_findsWay_55 : decode cX8_findsWay 55 = .ok (.dup2, 1) := by decide +kernel
theorem dX8_findsWay_56 : decode cX8_findsWay 56 = .ok (.iaload, 1) := by decide +kernel
theorem dX8_findsWay_57 : decode cX8_findsWay 57 = .ok (.iconst 1, 1) := by decide +kernel
theorem dX8_findsWay_58 : decode cX8_findsWay 58 = .ok (.iadd, 1) := by decide +kernel
theorem dX8_findsWay_59 : decode cX8_findsWay 59 = .ok (.iastore, 1) := by decide +kernel
theorem dX8_findsWay_60 : decode cX8_findsWay 60 = .ok (.aload_n 0, 1) := by decide +kernel
theorem dX8_findsWay_61 : decode cX8_findsWay 61 = .ok (.getfield 32, 3) := by decide +kernel
theorem dX8_findsWay_64 : decode cX8_findsWay 64 = .ok (.iload 4, 2) := by decide +kernel
theorem dX8_findsWay_66 : decode cX8_findsWay 66 = .ok (.iaload, 1) := by decide +kernel
theorem dX8_findsWay_67 : decode cX8_findsWay 67 = .ok (.iconst 4, 1) := by decide +kernel
theorem dX8_findsWay_68 : decode cX8_findsWay 68 = .ok (.if_icmp .le 9, 3) := by decide +kernel
theorem dX8_findsWay_71 : decode cX8_findsWay 71 = .ok (.iinc 4 (-1), 3) := by decide +kernel
theorem dX8_findsWay_74 : decode cX8_findsWay 74 = .ok (.goto (-30), 3) := by decide +kernel
theorem dX8_findsWay_77 : decode cX8_findsWay 77 = .ok (.aload_n 0, 1) := by decide +kernel
theorem dX8_findsWay_78 : decode cX8_findsWay 78 = .ok (.iload 4, 2) := by decide +kernel
theorem dX8_findsWay_80 : decode cX8_findsWay 80 = .ok (.aload_n 0, 1) := by decide +kernel
theorem dX8_findsWay_81 : decode cX8_findsWay 81 = .ok (.getfield 32, 3) := by decide +kernel
theorem dX8_findsWay_84 : decode cX8_findsWay 84 = .ok (.iload 4, 2) := by decide +kernel
theorem dX8_findsWay_86 : decode cX8_findsWay 86 = .ok (.iaload, 1) := by decide +kernel
theorem dX8_findsWay_87 : decode cX8_findsWay 87 = .ok (.invokevirtual 177, 3) := by decide +kernel
theorem dX8_findsWay_90 : decode cX8_findsWay 90 = .ok (.ifCond .eq (-46), 3) := by decide +kernel
theorem dX8_findsWay_93 : decode cX8_findsWay 93 = .ok (.aload_n 0, 1) := by decide +kernel
theorem dX8_findsWay_94 : decode cX8_findsWay 94 = .ok (.iload_n 1, 1) := by decide +kernel
theorem dX8_findsWay_95 : decode cX8_findsWay 95 = .ok (.iload 4, 2) := by decide +kernel
theorem dX8_findsWay_97 : decode cX8_findsWay 97 = .ok (.iconst 1, 1) := by decide +kernel
theorem dX8_findsWay_98 : decode cX8_findsWay 98 = .ok (.iadd, 1) := by decide +kernel
theorem dX8_findsWay_99 : decode cX8_findsWay 99 = .ok (.invokevirtual 180, 3) := by decide +kernel
theorem dX8_findsWay_102 : decode cX8_findsWay 102 = .ok (.ifCond .eq (-58), 3) := by decide +kernel
theorem dX8_findsWay_105 : decode cX8_findsWay 105 = .ok (.iload 4, 2) := by decide +kernel
theorem dX8_findsWay_107 : decode cX8_findsWay 107 = .ok (.iload_n 3, 1) := by decide +kernel
theorem dX8_findsWay_108 : decode cX8_findsWay 108 = .ok (.iconst 1, 1) := by decide +kernel
theorem dX8_findsWay_109 : decode cX8_findsWay 109 = .ok (.isub, 1) := by decide +kernel
theorem dX8_findsWay_110 : decode cX8_findsWay 110 = .ok (.if_icmp .ne 11, 3) := by decide +kernel
theorem dX8_findsWay_113 : decode cX8_findsWay 113 = .ok (.aload_n 0, 1) := by decide +kernel
theorem dX8_findsWay_114 : decode cX8_findsWay 114 = .ok (.iload_n 1, 1) := by decide +kernel
theorem dX8_findsWay_115 : decode cX8_findsWay 115 = .ok (.invokevirtual 174, 3) := by decide +kernel
theorem dX8_findsWay_118 : decode cX8_findsWay 118 = .ok (.goto (-74), 3) := by decide +kernel
theorem dX8_findsWay_121 : decode cX8_findsWay 121 = .ok (.iinc 4 1, 3) := by decide +kernel
theorem dX8_findsWay_124 : decode cX8_findsWay 124 = .ok (.aload_n 0, 1) := by decide +kernel
theorem dX8_findsWay_125 : decode cX8_findsWay 125 = .ok (.getfield 32, 3) := by decide +kernel
theorem dX8_findsWay_128 : decode cX8_findsWay 128 = .ok (.iload 4, 2) := by decide +kernel
theorem dX8_findsWay_130 : decode cX8_findsWay 130 = .ok (.iconst (-1), 1) := by decide +kernel
theorem dX8_findsWay_131 : decode cX8_findsWay 131 = .ok (.iastore, 1) := by decide +kernel
theorem dX8_findsWay_132 : decode cX8_findsWay 132 = .ok (.goto (-88), 3) := by decide +kernel
theorem dX8_findsWay_135 : decode cX8_findsWay 135 = .ok (.return_, 1) := by decide +kernel
theorem dX8_otherwise_0 : decode cX8_otherwise 0 = .ok (.iconst 0, 1) := by decide +kernel
theorem dX8_otherwise_1 : decode cX8_otherwise 1 = .ok (.istore_n 1, 1) := by decide +kernel
theorem dX8_otherwise_2 : decode cX8_otherwise 2 = .ok (.iconst 0, 1) := by decide +kernel
theorem dX8_otherwise_3 : decode cX8_otherwise 3 = .ok (.istore_n 2, 1) := by decide +kernel
theorem dX8_otherwise_4 : decode cX8_otherwise 4 = .ok (.iload_n 2, 1) := by decide +kernel
theorem dX8_otherwise_5 : decode cX8_otherwise 5 = .ok (.aload_n 0, 1) := by decide +kernel
theorem dX8_otherwise_6 : decode cX8_otherwise 6 = .ok (.getfield 7, 3) := by decide +kernel
theorem dX8_otherwise_9 : decode cX8_otherwise 9 = .ok (.iconst 2, 1) := by decide +kernel
theorem dX8_otherwise_10 : decode cX8_otherwise 10 = .ok (.iaload, 1) := by decide +kernel
theorem dX8_otherwise_11 : decode cX8_otherwise 11 = .ok (.if_icmp .ge 36, 3) := by decide +kernel
theorem dX8_otherwise_14 : decode cX8_otherwise 14 = .ok (.iload_n 1, 1) := by decide +kernel
theorem dX8_otherwise_15 : decode cX8_otherwise 15 = .ok (.aload_n 0, 1) := by decide +kernel
theorem dX8_otherwise_16 : decode cX8_otherwise 16 = .ok (.getfield 35, 3) := by decide +kernel
theorem dX8_otherwise_19 : decode cX8_otherwise 19 = .ok (.iload_n 2, 1) := by decide +kernel
theorem dX8_otherwise_20 : decode cX8_otherwise 20 = .ok (.iaload, 1) := by decide +kernel
theorem dX8_otherwise_21 : decode cX8_otherwise 21 = .ok (.invokestatic 155, 3) := by decide +kernel
theorem dX8_otherwise_24 : decode cX8_otherwise 24 = .ok (.aload_n 0, 1) := by decide +kernel
theorem dX8_otherwise_25 : decode cX8_otherwise 25 = .ok (.iload_n 2, 1) := by decide +kernel
theorem dX8_otherwise_26 : decode cX8_otherwise 26 = .ok (.bipush 6, 2) := by decide +kernel
theorem dX8_otherwise_28 : decode cX8_otherwise 28 = .ok (.invokevirtual 110, 3) := by decide +kernel
theorem dX8_otherwise_31 : decode cX8_otherwise 31 = .ok (.if_icmp .ne 7, 3) := by decide +kernel
theorem dX8_otherwise_34 : decode cX8_otherwise 34 = .ok (.iconst 0, 1) := by decide +kernel
theorem dX8_otherwise_35 : decode cX8_otherwise 35 = .ok (.goto 4, 3) := by decide +kernel
theorem dX8_otherwise_38 : decode cX8_otherwise 38 = .ok (.iconst 1, 1) := by decide +kernel
theorem dX8_otherwise_39 : decode cX8_otherwise 39 = .ok (.iadd, 1) := by decide +kernel
theorem dX8_otherwise_40 : decode cX8_otherwise 40 = .ok (.istore_n 1, 1) := by decide +kernel
theorem dX8_otherwise_41 : decode cX8_otherwise 41 = .ok (.iinc 2 1, 3) := by decide +kernel
theorem dX8_otherwise_44 : decode cX8_otherwise 44 = .ok (.goto (-40), 3) := by decide +kernel
theorem dX8_otherwise_47 : decode cX8_otherwise 47 = .ok (.iload_n 1, 1) := by decide +kernel
theorem dX8_otherwise_48 : decode cX8_otherwise 48 = .ok (.ireturn, 1) := by decide +kernel
theorem dX8_wished_0 : decode cX8_wished 0 = .ok (.iconst 0, 1) := by decide +kernel
theorem dX8_wished_1 : decode cX8_wished 1 = .ok (.istore_n 1, 1) := by decide +kernel
theorem dX8_wished_2 : decode cX8_wished 2 = .ok (.iconst 0, 1) := by decide +kernel
theorem dX8_wished_3 : decode cX8_wished 3 = .ok (.istore_n 2, 1) := by decide +kernel
theorem dX8_wished_4 : decode cX8_wished 4 = .ok (.iload_n 2, 1) := by decide +kernel
theorem dX8_wished_5 : decode cX8_wished 5 = .ok (.aload_n 0, 1) := by decide +kernel
theorem dX8_wished_6 : decode cX8_wished 6 = .ok (.getfield 7, 3) := by decide +kernel
theorem dX8_wished_9 : decode cX8_wished 9 = .ok (.iconst 2, 1) := by decide +kernel
theorem dX8_wished_10 : decode cX8_wished 10 = .ok (.iaload, 1) := by decide +kernel
theorem dX8_wished_11 : decode cX8_wished 11 = .ok (.if_icmp .ge 43, 3) := by decide +kernel
theorem dX8_wished_14 : decode cX8_wished 14 = .ok (.aload_n 0, 1) := by decide +kernel
theorem dX8_wished_15 : decode cX8_wished 15 = .ok (.getfield 35, 3) := by decide +kernel
theorem dX8_wished_18 : decode cX8_wished 18 = .ok (.iload_n 2, 1) := by decide +kernel
theorem dX8_wished_19 : decode cX8_wished 19 = .ok (.iaload, 1) := by decide +kernel
theorem dX8_wished_20 : decode cX8_wished 20 = .ok (.invokestatic 155, 3) := by decide +kernel
theorem dX8_wished_23 : decode cX8_wished 23 = .ok (.istore_n 3, 1) := by decide +kernel
theorem dX8_wished_24 : decode cX8_wished 24 = .ok (.iload_n 1, 1) := by decide +kernel
theorem dX8_wished_25 : decode cX8_wished 25 = .ok (.iload_n 3, 1) := by decide +kernel
theorem dX8_wished_26 : decode cX8_wished 26 = .ok (.bipush (-4), 2) := by decide +kernel
theorem dX8_wished_28 : decode cX8_wished 28 = .ok (.if_icmp .eq 17, 3) := by decide +kernel
theorem dX8_wished_31 : decode cX8_wished 31 = .ok (.iload_n 3, 1) := by decide +kernel
theorem dX8_wished_32 : decode cX8_wished 32 = .ok (.aload_n 0, 1) := by decide +kernel
theorem dX8_wished_33 : decode cX8_wished 33 = .ok (.iload_n 2, 1) := by decide +kernel
theorem dX8_wished_34 : decode cX8_wished 34 = .ok (.iconst 4, 1) := by decide +kernel
theorem dX8_wished_35 : decode cX8_wished 35 = .ok (.invokevirtual 110, 3) := by decide +kernel
theorem dX8_wished_38 : decode cX8_wished 38 = .ok (.if_icmp .ne 7, 3) := by decide +kernel
theorem dX8_wished_41 : decode cX8_wished 41 = .ok (.iconst 1, 1) := by decide +kernel
theorem dX8_wished_42 : decode cX8_wished 42 = .ok (.goto 4, 3) := by decide +kernel
theorem dX8_wished_45 : decode cX8_wished 45 = .ok (.iconst 0, 1) := by decide +kernel
theorem dX8_wished_46 : decode cX8_wished 46 = .ok (.iadd, 1) := by decide +kernel
theorem dX8_wished_47 : decode cX8_wished 47 = .ok (.istore_n 1, 1) := by decide +kernel
theorem dX8_wished_48 : decode cX8_wished 48 = .ok (.iinc 2 1, 3) := by decide +kernel
theorem dX8_wished_51 : decode cX8_wished 51 = .ok (.goto (-47), 3) := by decide +kernel
theorem dX8_wished_54 : decode cX8_wished 54 = .ok (.iload_n 1, 1) := by decide +kernel
theorem dX8_wished_55 : decode cX8_wished 55 = .ok (.ireturn, 1) := by decide +kernel
theorem dX8_way_0 : decode cX8_way 0 = .ok (.iload_n 1, 1) := by decide +kernel
theorem dX8_way_1 : decode cX8_way 1 = .ok (.iconst 0, 1) := by decide +kernel
theorem dX8_way_2 : decode cX8_way 2 = .ok (.iconst 1, 1) := by decide +kernel
theorem dX8_way_3 : decode cX8_way 3 = .ok (.invokestatic 58, 3) := by decide +kernel
theorem dX8_way_6 : decode cX8_way 6 = .ok (.ifCond .eq 20, 3) := by decide +kernel
theorem dX8_way_9 : decode cX8_way 9 = .ok (.iload_n 2, 1) := by decide +kernel
theorem dX8_way_10 : decode cX8_way 10 = .ok (.bipush (-3), 2) := by decide +kernel
theorem dX8_way_12 : decode cX8_way 12 = .ok (.aload_n 0, 1) := by decide +kernel
theorem dX8_way_13 : decode cX8_way 13 = .ok (.getfield 7, 3) := by decide +kernel
theorem dX8_way_16 : decode cX8_way 16 = .ok (.iconst 2, 1) := by decide +kernel
theorem dX8_way_17 : decode cX8_way 17 = .ok (.iaload, 1) := by decide +kernel
theorem dX8_way_18 : decode cX8_way 18 = .ok (.iconst 1, 1) := by decide +kernel
theorem dX8_way_19 : decode cX8_way 19 = .ok (.isub, 1) := by decide +kernel
theorem dX8_way_20 : decode cX8_way 20 = .ok (.invokestatic 58, 3) := by decide +kernel
theorem dX8_way_23 : decode cX8_way 23 = .ok (.ifCond .ne 5, 3) := by decide +kernel
theorem dX8_way_26 : decode cX8_way 26 = .ok (.iconst (-1), 1) := by decide +kernel
theorem dX8_way_27 : decode cX8_way 27 = .ok (.ireturn, 1) := by decide +kernel
theorem dX8_way_28 : decode cX8_way 28 = .ok (.aload_n 0, 1) := by decide +kernel
theorem dX8_way_29 : decode cX8_way 29 = .ok (.iload_n 1, 1) := by decide +kernel
theorem dX8_way_30 : decode cX8_way 30 = .ok (.iconst 0, 1) := by decide +kernel
theorem dX8_way_31 : decode cX8_way 31 = .ok (.invokevirtual 183, 3) := by decide +kernel
theorem dX8_way_34 : decode cX8_way 34 = .ok (.iload_n 2, 1) := by decide +kernel
theorem dX8_way_35 : decode cX8_way 35 = .ok (.tableswitch 40 (-3) (-1) #[35, 30, 25], 25) := by decide +kernel
theorem dX8_way_60 : decode cX8_way 60 = .ok (.aload_n 0, 1) := by decide +kernel
theorem dX8_way_61 : decode cX8_way 61 = .ok (.getfield 164, 3) := by decide +kernel
theorem dX8_way_64 : decode cX8_way 64 = .ok (.ireturn, 1) := by decide +kernel
theorem dX8_way_65 : decode cX8_way 65 = .ok (.aload_n 0, 1) := by decide +kernel
theorem dX8_way_66 : decode cX8_way 66 = .ok (.invokevirtual 187, 3) := by decide +kernel
theorem dX8_way_69 : decode cX8_way 69 = .ok (.ireturn, 1) := by decide +kernel
theorem dX8_way_70 : decode cX8_way 70 = .ok (.aload_n 0, 1) := by decide +kernel
theorem dX8_way_71 : decode cX8_way 71 = .ok (.invokevirtual 190, 3) := by decide +kernel
theorem dX8_way_74 : decode cX8_way 74 = .ok (.ireturn, 1) := by decide +kernel
theorem dX8_way_75 : decode cX8_way 75 = .ok (.aload_n 0, 1) := by decide +kernel
theorem dX8_way_76 : decode cX8_way 76 = .ok (.getfield 35, 3) := by decide +kernel
theorem dX8_way_79 : decode cX8_way 79 = .ok (.iload_n 2, 1) := by decide +kernel
theorem dX8_way_80 : decode cX8_way 80 = .ok (.iaload, 1) := by decide +kernel
theorem dX8_way_81 : decode cX8_way 81 = .ok (.invokestatic 155, 3) := by decide +kernel
theorem dX8_way_84 : decode cX8_way 84 = .ok (.ireturn, 1) := by decide +kernel
theorem dX8_adopt_0 : decode cX8_adopt 0 = .ok (.iload_n 1, 1) := by decide +kernel
theorem dX8_adopt_1 : decode cX8_adopt 1 = .ok (.iconst 0, 1) := by decide +kernel
theorem dX8_adopt_2 : decode cX8_adopt 2 = .ok (.iconst 1, 1) := by decide +kernel
theorem dX8_adopt_3 : decode cX8_adopt 3 = .ok (.invokestatic 58, 3) := by decide +kernel
theorem dX8_adopt_6 : decode cX8_adopt 6 = .ok (.ifCond .ne 5, 3) := by decide +kernel
theorem dX8_adopt_9 : decode cX8_adopt 9 = .ok (.iconst (-1), 1) := by decide +kernel
theorem dX8_adopt_10 : decode cX8_adopt 10 = .ok (.ireturn, 1) := by decide +kernel
theorem dX8_adopt_11 : decode cX8_adopt 11 = .ok (.aload_n 0, 1) := by decide +kernel
theorem dX8_adopt_12 : decode cX8_adopt 12 = .ok (.iload_n 1, 1) := by decide +kernel
theorem dX8_adopt_13 : decode cX8_adopt 13 = .ok (.iconst 0, 1) := by decide +kernel
theorem dX8_adopt_14 : decode cX8_adopt 14 = .ok (.invokevirtual 183, 3) := by decide +kernel
theorem dX8_adopt_17 : decode cX8_adopt 17 = .ok (.aload_n 0, 1) := by decide +kernel
theorem dX8_adopt_18 : decode cX8_adopt 18 = .ok (.invokevirtual 145, 3) := by decide +kernel
theorem dX8_adopt_21 : decode cX8_adopt 21 = .ok (.aload_n 0, 1) := by decide +kernel
theorem dX8_adopt_22 : decode cX8_adopt 22 = .ok (.invokevirtual 190, 3) := by decide +kernel
theorem dX8_adopt_25 : decode cX8_adopt 25 = .ok (.istore_n 2, 1) := by decide +kernel
theorem dX8_adopt_26 : decode cX8_adopt 26 = .ok (.iconst 0, 1) := by decide +kernel
theorem dX8_adopt_27 : decode cX8_adopt 27 = .ok (.istore_n 3, 1) := by decide +kernel
theorem dX8_adopt_28 : decode cX8_adopt 28 = .ok (.iload_n 3, 1) := by decide +kernel
theorem dX8_adopt_29 : decode cX8_adopt 29 = .ok (.aload_n 0, 1) := by decide +kernel
theorem dX8_adopt_30 : decode cX8_adopt 30 = .ok (.getfield 7, 3) := by decide +kernel
theorem dX8_adopt_33 : decode cX8_adopt 33 = .ok (.iconst 2, 1) := by decide +kernel
theorem dX8_adopt_34 : decode cX8_adopt 34 = .ok (.iaload, 1) := by decide +kernel
theorem dX8_adopt_35 : decode cX8_adopt 35 = .ok (.if_icmp .ge 25, 3) := by decide +kernel
theorem dX8_adopt_38 : decode cX8_adopt 38 = .ok (.aload_n 0, 1) := by decide +kernel
theorem dX8_adopt_39 : decode cX8_adopt 39 = .ok (.iload_n 3, 1) := by decide +kernel
theorem dX8_adopt_40 : decode cX8_adopt 40 = .ok (.bipush 6, 2) := by decide +kernel
theorem dX8_adopt_42 : decode cX8_adopt 42 = .ok (.aload_n 0, 1) := by decide +kernel
theorem dX8_adopt_43 : decode cX8_adopt 43 = .ok (.getfield 35, 3) := by decide +kernel
theorem dX8_adopt_46 : decode cX8_adopt 46 = .ok (.iload_n 3, 1) := by decide +kernel
theorem dX8_adopt_47 : decode cX8_adopt 47 = .ok (.iaload, 1) := by decide +kernel
theorem dX8_adopt_48 : decode cX8_adopt 48 = .ok (.invokestatic 155, 3) := by decide +kernel
theorem dX8_adopt_51 : decode cX8_adopt 51 = .ok (.invokevirtual 148, 3) := by decide +kernel
theorem dX8_adopt_54 : decode cX8_adopt 54 = .ok (.iinc 3 1, 3) := by decide +kernel
theorem dX8_adopt_57 : decode cX8_adopt 57 = .ok (.goto (-29), 3) := by decide +kernel
theorem dX8_adopt_60 : decode cX8_adopt 60 = .ok (.iload_n 2, 1) := by decide +kernel
theorem dX8_adopt_61 : decode cX8_adopt 61 = .ok (.ireturn, 1) := by decide +kernel
theorem dX8_without_0 : decode cX8_without 0 = .ok (.iload_n 1, 1) := by decide +kernel
theorem dX8_without_1 : decode cX8_without 1 = .ok (.iconst 0, 1) := by decide +kernel
theorem dX8_without_2 : decode cX8_without 2 = .ok (.bipush 11, 2) := by decide +kernel
theorem dX8_without_4 : decode cX8_without 4 = .ok (.invokestatic 58, 3) := by decide +kernel
theorem dX8_without_7 : decode cX8_without 7 = .ok (.ifCond .ne 5, 3) := by decide +kernel
theorem dX8_without_10 : decode cX8_without 10 = .ok (.iconst (-1), 1) := by decide +kernel
theorem dX8_without_11 : decode cX8_without 11 = .ok (.ireturn, 1) := by decide +kernel
theorem dX8_without_12 : decode cX8_without 12 = .ok (.aload_n 0, 1) := by decide +kernel
theorem dX8_without_13 : decode cX8_without 13 = .ok (.iconst 0, 1) := by decide +kernel
theorem dX8_without_14 : decode cX8_without 14 = .ok (.iconst 1, 1) := by decide +kernel
theorem dX8_without_15 : decode cX8_without 15 = .ok (.iload_n 1, 1) := by decide +kernel
theorem dX8_without_16 : decode cX8_without 16 = .ok (.ishl, 1) := by decide +kernel
theorem dX8_without_17 : decode cX8_without 17 = .ok (.invokevirtual 183, 3) := by decide +kernel
theorem dX8_without_20 : decode cX8_without 20 = .ok (.aload_n 0, 1) := by decide +kernel
theorem dX8_without_21 : decode cX8_without 21 = .ok (.getfield 164, 3) := by decide +kernel
theorem dX8_without_24 : decode cX8_without 24 = .ok (.ireturn, 1) := by decide +kernel
theorem dX8_onTrack_0 : decode cX8_onTrack 0 = .ok (.iconst 0, 1) := by decide +kernel
theorem dX8_onTrack_1 : decode cX8_onTrack 1 = .ok (.istore_n 3, 1) := by decide +kernel
theorem dX8_onTrack_2 : decode cX8_onTrack 2 = .ok (.iconst 0, 1) := by decide +kernel
theorem dX8_onTrack_3 : decode cX8_onTrack 3 = .ok (.istore 4, 2) := by decide +kernel
theorem dX8_onTrack_5 : decode cX8_onTrack 5 = .ok (.iload 4, 2) := by decide +kernel
theorem dX8_onTrack_7 : decode cX8_onTrack 7 = .ok (.aload_n 0, 1) := by decide +kernel
theorem dX8_onTrack_8 : decode cX8_onTrack 8 = .ok (.getfield 7, 3) := by decide +kernel
theorem dX8_onTrack_11 : decode cX8_onTrack 11 = .ok (.iconst 2, 1) := by decide +kernel
theorem dX8_onTrack_12 : decode cX8_onTrack 12 = .ok (.iaload, 1) := by decide +kernel
theorem dX8_onTrack_13 : decode cX8_onTrack 13 = .ok (.if_icmp .ge 53, 3) := by decide +kernel
theorem dX8_onTrack_16 : decode cX8_onTrack 16 = .ok (.iload_n 3, 1) := by decide +kernel
theorem dX8_onTrack_17 : decode cX8_onTrack 17 = .ok (.aload_n 0, 1) := by decide +kernel
theorem dX8_onTrack_18 : decode cX8_onTrack 18 = .ok (.iload 4, 2) := by decide +kernel
theorem dX8_onTrack_20 : decode cX8_onTrack 20 = .ok (.bipush 6, 2) := by decide +kernel
theorem dX8_onTrack_22 : decode cX8_onTrack 22 = .ok (.invokevirtual 110, 3) := by decide +kernel
theorem dX8_onTrack_25 : decode cX8_onTrack 25 = .ok (.iload_n 1, 1) := by decide +kernel
theorem dX8_onTrack_26 : decode cX8_onTrack 26 = .ok (.if_icmp .ne 31, 3) := by decide +kernel
theorem dX8_onTrack_29 : decode cX8_onTrack 29 = .ok (.iload_n 2, 1) := by decide +kernel
theorem dX8_onTrack_30 : decode cX8_onTrack 30 = .ok (.aload_n 0, 1) := by decide +kernel
theorem dX8_onTrack_31 : decode cX8_onTrack 31 = .ok (.iload 4, 2) := by decide +kernel
theorem dX8_onTrack_33 : decode cX8_onTrack 33 = .ok (.iconst 2, 1) := by decide +kernel
theorem dX8_onTrack_34 : decode cX8_onTrack 34 = .ok (.invokevirtual 110, 3) := by decide +kernel
theorem dX8_onTrack_37 : decode cX8_onTrack 37 = .ok (.aload_n 0, 1) := by decide +kernel
theorem dX8_onTrack_38 : decode cX8_onTrack 38 = .ok (.iload 4, 2) := by decide +kernel
theorem dX8_onTrack_40 : decode cX8_onTrack 40 = .ok (.iconst 3, 1) := by decide +kernel
theorem dX8_onTrack_41 : decode cX8_onTrack 41 = .ok (.invokevirtual 110, 3) := by decide +kernel
theorem dX8_onTrack_44 : decode cX8_onTrack 44 = .ok (.invokestatic 58, 3) := by decide +kernel
theorem dX8_onTrack_47 : decode cX8_onTrack 47 = .ok (.ifCond .eq 10, 3) := by decide +kernel
theorem dX8_onTrack_50 : decode cX8_onTrack 50 = .ok (.iconst 1, 1) := by decide +kernel
theorem dX8_onTrack_51 : decode cX8_onTrack 51 = .ok (.iload 4, 2) := by decide +kernel
theorem dX8_onTrack_53 : decode cX8_onTrack 53 = .ok (.ishl, 1) := by decide +kernel
theorem dX8_onTrack_54 : decode cX8_onTrack 54 = .ok (.goto 4, 3) := by decide +kernel
theorem dX8_onTrack_57 : decode cX8_onTrack 57 = .ok (.iconst 0, 1) := by decide +kernel
theorem dX8_onTrack_58 : decode cX8_onTrack 58 = .ok (.ior, 1) := by decide +kernel
theorem dX8_onTrack_59 : decode cX8_onTrack 59 = .ok (.istore_n 3, 1) := by decide +kernel
theorem dX8_onTrack_60 : decode cX8_onTrack 60 = .ok (.iinc 4 1, 3) := by decide +kernel
theorem dX8_onTrack_63 : decode cX8_onTrack 63 = .ok (.goto (-58), 3) := by decide +kernel
theorem dX8_onTrack_66 : decode cX8_onTrack 66 = .ok (.iload_n 3, 1) := by decide +kernel
theorem dX8_onTrack_67 : decode cX8_onTrack 67 = .ok (.ireturn, 1) := by decide +kernel
theorem dX8_on_0 : decode cX8_on 0 = .ok (.aload_n 0, 1) := by decide +kernel
theorem dX8_on_1 : decode cX8_on 1 = .ok (.iload_n 1, 1) := by decide +kernel
theorem dX8_on_2 : decode cX8_on 2 = .ok (.invokevirtual 102, 3) := by decide +kernel
theorem dX8_on_5 : decode cX8_on 5 = .ok (.ifCond .eq 22, 3) := by decide +kernel
theorem dX8_on_8 : decode cX8_on 8 = .ok (.iload_n 2, 1) := by decide +kernel
theorem dX8_on_9 : decode cX8_on 9 = .ok (.iconst 0, 1) := by decide +kernel
theorem dX8_on_10 : decode cX8_on 10 = .ok (.bipush 99, 2) := by decide +kernel
theorem dX8_on_12 : decode cX8_on 12 = .ok (.invokestatic 58, 3) := by decide +kernel
theorem dX8_on_15 : decode cX8_on 15 = .ok (.ifCond .eq 12, 3) := by decide +kernel
theorem dX8_on_18 : decode cX8_on 18 = .ok (.aload_n 0, 1) := by decide +kernel
theorem dX8_on_19 : decode cX8_on 19 = .ok (.iload_n 1, 1) := by decide +kernel
theorem dX8_on_20 : decode cX8_on 20 = .ok (.iload_n 2, 1) := by decide +kernel
theorem dX8_on_21 : decode cX8_on 21 = .ok (.invokevirtual 193, 3) := by decide +kernel
theorem dX8_on_24 : decode cX8_on 24 = .ok (.goto 4, 3) := by decide +kernel
theorem dX8_on_27 : decode cX8_on 27 = .ok (.iconst (-1), 1) := by decide +kernel
theorem dX8_on_28 : decode cX8_on 28 = .ok (.ireturn, 1) := by decide +kernel
theorem dX8_takenIn_0 : decode cX8_takenIn 0 = .ok (.iconst 0, 1) := by decide +kernel
theorem dX8_takenIn_1 : decode cX8_takenIn 1 = .ok (.istore_n 2, 1) := by decide +kernel
theorem dX8_takenIn_2 : decode cX8_takenIn 2 = .ok (.iconst 0, 1) := by decide +kernel
theorem dX8_takenIn_3 : decode cX8_takenIn 3 = .ok (.istore_n 3, 1) := by decide +kernel
theorem dX8_takenIn_4 : decode cX8_takenIn 4 = .ok (.iload_n 3, 1) := by decide +kernel
theorem dX8_takenIn_5 : decode cX8_takenIn 5 = .ok (.aload_n 0, 1) := by decide +kernel
theorem dX8_takenIn_6 : decode cX8_takenIn 6 = .ok (.getfield 7, 3) := by decide +kernel
theorem dX8_takenIn_9 : decode cX8_takenIn 9 = .ok (.iconst 2, 1) := by decide +kernel
theorem dX8_takenIn_10 : decode cX8_takenIn 10 = .ok (.iaload, 1) := by decide +kernel
theorem dX8_takenIn_11 : decode cX8_takenIn 11 = .ok (.if_icmp .ge 95, 3) := by decide +kernel
theorem dX8_takenIn_14 : decode cX8_takenIn 14 = .ok (.aload_n 0, 1) := by decide +kernel
theorem dX8_takenIn_15 : decode cX8_takenIn 15 = .ok (.iload_n 3, 1) := by decide +kernel
theorem dX8_takenIn_16 : decode cX8_takenIn 16 = .ok (.bipush 6, 2) := by decide +kernel
theorem dX8_takenIn_18 : decode cX8_takenIn 18 = .ok (.invokevirtual 110, 3) := by decide +kernel
theorem dX8_takenIn_21 : decode cX8_takenIn 21 = .ok (.istore 4, 2) := by decide +kernel
theorem dX8_takenIn_23 : decode cX8_takenIn 23 = .ok (.iload 4, 2) := by decide +kernel
theorem dX8_takenIn_25 : decode cX8_takenIn 25 = .ok (.bipush (-4), 2) := by decide +kernel
theorem dX8_takenIn_27 : decode cX8_takenIn 27 = .ok (.if_icmp .eq 73, 3) := by decide +kernel
theorem dX8_takenIn_30 : decode cX8_takenIn 30 = .ok (.iload_n 2, 1) := by decide +kernel
theorem dX8_takenIn_31 : decode cX8_takenIn 31 = .ok (.iload_n 1, 1) := by decide +kernel
theorem dX8_takenIn_32 : decode cX8_takenIn 32 = .ok (.aload_n 0, 1) := by decide +kernel
theorem dX8_takenIn_33 : decode cX8_takenIn 33 = .ok (.iload_n 3, 1) := by decide +kernel
theorem dX8_takenIn_34 : decode cX8_takenIn 34 = .ok (.iconst 2, 1) := by decide +kernel
theorem dX8_takenIn_35 : decode cX8_takenIn 35 = .ok (.invokevirtual 110, 3) := by decide +kernel
theorem dX8_takenIn_38 : decode cX8_takenIn 38 = .ok (.iconst 1, 1) := by decide +kernel
theorem dX8_takenIn_39 : decode cX8_takenIn 39 = .ok (.isub, 1) := by decide +kernel
theorem dX8_takenIn_40 : decode cX8_takenIn 40 = .ok (.aload_n 0, 1) := by decide +kernel
theorem dX8_takenIn_41 : decode cX8_takenIn 41 = .ok (.iload_n 3, 1) := by decide +kernel
theorem dX8_takenIn_42 : decode cX8_takenIn 42 = .ok (.iconst 2, 1) := by decide +kernel
theorem dX8_takenIn_43 : decode cX8_takenIn 43 = .ok (.invokevirtual 110, 3) := by decide +kernel
theorem dX8_takenIn_46 : decode cX8_takenIn 46 = .ok (.invokestatic 58, 3) := by decide +kernel
theorem dX8_takenIn_49 : decode cX8_takenIn 49 = .ok (.ifCond .eq 13, 3) := by decide +kernel
theorem dX8_takenIn_52 : decode cX8_takenIn 52 = .ok (.aload_n 0, 1) := by decide +kernel
theorem dX8_takenIn_53 : decode cX8_takenIn 53 = .ok (.iload_n 3, 1) := by decide +kernel
theorem dX8_takenIn_54 : decode cX8_takenIn 54 = .ok (.iload 4, 2) := by decide +kernel
theorem dX8_takenIn_56 : decode cX8_takenIn 56 = .ok (.invokevirtual 113, 3) := by decide +kernel
theorem dX8_takenIn_59 : decode cX8_takenIn 59 = .ok (.goto 4, 3) := by decide +kernel
theorem dX8_takenIn_62 : decode cX8_takenIn 62 = .ok (.iconst 0, 1) := by decide +kernel
theorem dX8_takenIn_63 : decode cX8_takenIn 63 = .ok (.ior, 1) := by decide +kernel
theorem dX8_takenIn_64 : decode cX8_takenIn 64 = .ok (.istore_n 2, 1) := by decide +kernel
theorem dX8_takenIn_65 : decode cX8_takenIn 65 = .ok (.iload_n 2, 1) := by decide +kernel
theorem dX8_takenIn_66 : decode cX8_takenIn 66 = .ok (.iload_n 1, 1) := by decide +kernel
theorem dX8_takenIn_67 : decode cX8_takenIn 67 = .ok (.aload_n 0, 1) := by decide +kernel
theorem dX8_takenIn_68 : decode cX8_takenIn 68 = .ok (.iload_n 3, 1) := by decide +kernel
theorem dX8_takenIn_69 : decode cX8_takenIn 69 = .ok (.iconst 3, 1) := by decide +kernel
theorem dX8_takenIn_70 : decode cX8_takenIn 70 = .ok (.invokevirtual 110, 3) := by decide +kernel
theorem dX8_takenIn_73 : decode cX8_takenIn 73 = .ok (.aload_n 0, 1) := by decide +kernel
theorem dX8_takenIn_74 : decode cX8_takenIn 74 = .ok (.iload_n 3, 1) := by decide +kernel
theorem dX8_takenIn_75 : decode cX8_takenIn 75 = .ok (.iconst 3, 1) := by decide +kernel
theorem dX8_takenIn_76 : decode cX8_takenIn 76 = .ok (.invokevirtual 110, 3) := by decide +kernel
theorem dX8_takenIn_79 : decode cX8_takenIn 79 = .ok (.iconst 1, 1) := by decide +kernel
theorem dX8_takenIn_80 : decode cX8_takenIn 80 = .ok (.iadd, 1) := by decide +kernel
theorem dX8_takenIn_81 : decode cX8_takenIn 81 = .ok (.invokestatic 58, 3) := by decide +kernel
theorem dX8_takenIn_84 : decode cX8_takenIn 84 = .ok (.ifCond .eq 13, 3) := by decide +kernel
theorem dX8_takenIn_87 : decode cX8_takenIn 87 = .ok (.aload_n 0, 1) := by decide +kernel
theorem dX8_takenIn_88 : decode cX8_takenIn 88 = .ok (.iload_n 3, 1) := by decide +kernel
theorem dX8_takenIn_89 : decode cX8_takenIn 89 = .ok (.iload 4, 2) := by decide +kernel
theorem dX8_takenIn_91 : decode cX8_takenIn 91 = .ok (.invokevirtual 116, 3) := by decide +kernel
theorem dX8_takenIn_94 : decode cX8_takenIn 94 = .ok (.goto 4, 3) := by decide +kernel
theorem dX8_takenIn_97 : decode cX8_takenIn 97 = .ok (.iconst 0, 1) := by decide +kernel
theorem dX8_takenIn_98 : decode cX8_takenIn 98 = .ok (.ior, 1) := by decide +kernel
theorem dX8_takenIn_99 : decode cX8_takenIn 99 = .ok (.istore_n 2, 1) := by decide +kernel
theorem dX8_takenIn_100 : decode cX8_takenIn 100 = .ok (.iinc 3 1, 3) := by decide +kernel
theorem dX8_takenIn_103 : decode cX8_takenIn 103 = .ok (.goto (-99), 3) := by decide +kernel
theorem dX8_takenIn_106 : decode cX8_takenIn 106 = .ok (.iload_n 2, 1) := by decide +kernel
theorem dX8_takenIn_107 : decode cX8_takenIn 107 = .ok (.ireturn, 1) := by decide +kernel
theorem dX8_taken_0 : decode cX8_taken 0 = .ok (.iload_n 1, 1) := by decide +kernel
theorem dX8_taken_1 : decode cX8_taken 1 = .ok (.iconst 0, 1) := by decide +kernel
theorem dX8_taken_2 : decode cX8_taken 2 = .ok (.bipush 99, 2) := by decide +kernel
theorem dX8_taken_4 : decode cX8_taken 4 = .ok (.invokestatic 58, 3) := by decide +kernel
theorem dX8_taken_7 : decode cX8_taken 7 = .ok (.ifCond .eq 11, 3) := by decide +kernel
theorem dX8_taken_10 : decode cX8_taken 10 = .ok (.aload_n 0, 1) := by decide +kernel
theorem dX8_taken_11 : decode cX8_taken 11 = .ok (.iload_n 1, 1) := by decide +kernel
theorem dX8_taken_12 : decode cX8_taken 12 = .ok (.invokevirtual 196, 3) := by decide +kernel
theorem dX8_taken_15 : decode cX8_taken 15 = .ok (.goto 4, 3) := by decide +kernel
theorem dX8_taken_18 : decode cX8_taken 18 = .ok (.iconst (-1), 1) := by decide +kernel
theorem dX8_taken_19 : decode cX8_taken 19 = .ok (.ireturn, 1) := by decide +kernel
theorem dX8_use_0 : decode cX8_use 0 = .ok (.iload_n 1, 1) := by decide +kernel
theorem dX8_use_1 : decode cX8_use 1 = .ok (.iconst 0, 1) := by decide +kernel
theorem dX8_use_2 : decode cX8_use 2 = .ok (.iconst 1, 1) := by decide +kernel
theorem dX8_use_3 : decode cX8_use 3 = .ok (.invokestatic 58, 3) := by decide +kernel
theorem dX8_use_6 : decode cX8_use 6 = .ok (.ifCond .eq 28, 3) := by decide +kernel
theorem dX8_use_9 : decode cX8_use 9 = .ok (.iload_n 2, 1) := by decide +kernel
theorem dX8_use_10 : decode cX8_use 10 = .ok (.iconst 0, 1) := by decide +kernel
theorem dX8_use_11 : decode cX8_use 11 = .ok (.iload_n 1, 1) := by decide +kernel
theorem dX8_use_12 : decode cX8_use 12 = .ok (.ifCond .ne 14, 3) := by decide +kernel
theorem dX8_use_15 : decode cX8_use 15 = .ok (.aload_n 0, 1) := by decide +kernel
theorem dX8_use_16 : decode cX8_use 16 = .ok (.getfield 7, 3) := by decide +kernel
theorem dX8_use_19 : decode cX8_use 19 = .ok (.iconst 1, 1) := by decide +kernel
theorem dX8_use_20 : decode cX8_use 20 = .ok (.iaload, 1) := by decide +kernel
theorem dX8_use_21 : decode cX8_use 21 = .ok (.iconst 1, 1) := by decide +kernel
theorem dX8_use_22 : decode cX8_use 22 = .ok (.isub, 1) := by decide +kernel
theorem dX8_use_23 : decode cX8_use 23 = .ok (.goto 5, 3) := by decide +kernel
theorem dX8_use_26 : decode cX8_use 26 = .ok (.bipush 11, 2) := by decide +kernel
theorem dX8_use_28 : decode cX8_use 28 = .ok (.invokestatic 58, 3) := by decide +kernel
theorem dX8_use_31 : decode cX8_use 31 = .ok (.ifCond .ne 5, 3) := by decide +kernel
theorem dX8_use_34 : decode cX8_use 34 = .ok (.iconst (-1), 1) := by decide +kernel
theorem dX8_use_35 : decode cX8_use 35 = .ok (.ireturn, 1) := by decide +kernel
theorem dX8_use_36 : decode cX8_use 36 = .ok (.iconst 0, 1) := by decide +kernel
theorem dX8_use_37 : decode cX8_use 37 = .ok (.istore_n 3, 1) := by decide +kernel
theorem dX8_use_38 : decode cX8_use 38 = .ok (.iconst 0, 1) := by decide +kernel
theorem dX8_use_39 : decode cX8_use 39 = .ok (.istore 4, 2) := by decide +kernel
theorem dX8_use_41 : decode cX8_use 41 = .ok (.iload 4, 2) := by decide +kernel
theorem dX8_use_43 : decode cX8_use 43 = .ok (.bipush 100, 2) := by decide +kernel
theorem dX8_use_45 : decode cX8_use 45 = .ok (.if_icmp .ge 44, 3) := by decide +kernel
theorem dX8_use_48 : decode cX8_use 48 = .ok (.iload_n 3, 1) := by decide +kernel
theorem dX8_use_49 : decode cX8_use 49 = .ok (.iload_n 1, 1) := by decide +kernel
theorem dX8_use_50 : decode cX8_use 50 = .ok (.ifCond .ne 21, 3) := by decide +kernel
theorem dX8_use_53 : decode cX8_use 53 = .ok (.aload_n 0, 1) := by decide +kernel
theorem dX8_use_54 : decode cX8_use 54 = .ok (.iload_n 2, 1) := by decide +kernel
theorem dX8_use_55 : decode cX8_use 55 = .ok (.iload 4, 2) := by decide +kernel
theorem dX8_use_57 : decode cX8_use 57 = .ok (.invokevirtual 193, 3) := by decide +kernel
theorem dX8_use_60 : decode cX8_use 60 = .ok (.ifCond .eq 7, 3) := by decide +kernel
theorem dX8_use_63 : decode cX8_use 63 = .ok (.iconst 1, 1) := by decide +kernel
theorem dX8_use_64 : decode cX8_use 64 = .ok (.goto 17, 3) := by decide +kernel
theorem dX8_use_67 : decode cX8_use 67 = .ok (.iconst 0, 1) := by decide +kernel
theorem dX8_use_68 : decode cX8_use 68 = .ok (.goto 13, 3) := by decide +kernel
theorem dX8_use_71 : decode cX8_use 71 = .ok (.aload_n 0, 1) := by decide +kernel
theorem dX8_use_72 : decode cX8_use 72 = .ok (.iload 4, 2) := by decide +kernel
theorem dX8_use_74 : decode cX8_use 74 = .ok (.invokevirtual 196, 3) := by decide +kernel
theorem dX8_use_77 : decode cX8_use 77 = .ok (.iload_n 2, 1) := by decide +kernel
theorem dX8_use_78 : decode cX8_use 78 = .ok (.ishr, 1) := by decide +kernel
theorem dX8_use_79 : decode cX8_use 79 = .ok (.iconst 1, 1) := by decide +kernel
theorem dX8_use_80 : decode cX8_use 80 = .ok (.iand, 1) := by decide +kernel
theorem dX8_use_81 : decode cX8_use 81 = .ok (.iadd, 1) := by decide +kernel
theorem dX8_use_82 : decode cX8_use 82 = .ok (.istore_n 3, 1) := by decide +kernel
theorem dX8_use_83 : decode cX8_use 83 = .ok (.iinc 4 1, 3) := by decide +kernel
theorem dX8_use_86 : decode cX8_use 86 = .ok (.goto (-45), 3) := by decide +kernel
theorem dX8_use_89 : decode cX8_use 89 = .ok (.iload_n 3, 1) := by decide +kernel
theorem dX8_use_90 : decode cX8_use 90 = .ok (.ireturn, 1) := by decide +kernel
theorem dX8_asWished_0 : decode cX8_asWished 0 = .ok (.iconst 0, 1) := by decide +kernel
theorem dX8_asWished_1 : decode cX8_asWished 1 = .ok (.istore_n 1, 1) := by decide +kernel
theorem dX8_asWished_2 : decode cX8_asWished 2 = .ok (.iconst 0, 1) := by decide +kernel
theorem dX8_asWished_3 : decode cX8_asWished 3 = .ok (.istore_n 2, 1) := by decide +kernel
theorem dX8_asWished_4 : decode cX8_asWished 4 = .ok (.iload_n 2, 1) := by decide +kernel
theorem dX8_asWished_5 : decode cX8_asWished 5 = .ok (.aload_n 0, 1) := by decide +kernel
theorem dX8_asWished_6 : decode cX8_asWished 6 = .ok (.getfield 7, 3) := by decide +kernel
theorem dX8_asWished_9 : decode cX8_asWished 9 = .ok (.iconst 2, 1) := by decide +kernel
theorem dX8_asWished_10 : decode cX8_asWished 10 = .ok (.iaload, 1) := by decide +kernel
theorem dX8_asWished_11 : decode cX8_asWished 11 = .ok (.if_icmp .ge 45, 3) := by decide +kernel
theorem dX8_asWished_14 : decode cX8_asWished 14 = .ok (.iload_n 1, 1) := by decide +kernel
theorem dX8_asWished_15 : decode cX8_asWished 15 = .ok (.aload_n 0, 1) := by decide +kernel
theorem dX8_asWished_16 : decode cX8_asWished 16 = .ok (.iload_n 2, 1) := by decide +kernel
theorem dX8_asWished_17 : decode cX8_asWished 17 = .ok (.bipush 6, 2) := by decide +kernel
theorem dX8_asWished_19 : decode cX8_asWished 19 = .ok (.invokevirtual 110, 3) := by decide +kernel
theorem dX8_asWished_22 : decode cX8_asWished 22 = .ok (.bipush (-4), 2) := by decide +kernel
theorem dX8_asWished_24 : decode cX8_asWished 24 = .ok (.if_icmp .eq 23, 3) := by decide +kernel
theorem dX8_asWished_27 : decode cX8_asWished 27 = .ok (.aload_n 0, 1) := by decide +kernel
theorem dX8_asWished_28 : decode cX8_asWished 28 = .ok (.iload_n 2, 1) := by decide +kernel
theorem dX8_asWished_29 : decode cX8_asWished 29 = .ok (.bipush 6, 2) := by decide +kernel
theorem dX8_asWished_31 : decode cX8_asWished 31 = .ok (.invokevirtual 110, 3) := by decide +kernel
theorem dX8_asWished_34 : decode cX8_asWished 34 = .ok (.aload_n 0, 1) := by decide +kernel
theorem dX8_asWished_35 : decode cX8_asWished 35 = .ok (.iload_n 2, 1) := by decide +kernel
theorem dX8_asWished_36 : decode cX8_asWished 36 = .ok (.iconst 4, 1) := by decide +kernel
theorem dX8_asWished_37 : decode cX8_asWished 37 = .ok (.invokevirtual 110, 3) := by decide +kernel
theorem dX8_asWished_40 : decode cX8_asWished 40 = .ok (.if_icmp .ne 7, 3) := by decide +kernel
theorem dX8_asWished_43 : decode cX8_asWished 43 = .ok (.iconst 1, 1) := by decide +kernel
theorem dX8_asWished_44 : decode cX8_asWished 44 = .ok (.goto 4, 3) := by decide +kernel
theorem dX8_asWished_47 : decode cX8_asWished 47 = .ok (.iconst 0, 1) := by decide +kernel
theorem dX8_asWished_48 : decode cX8_asWished 48 = .ok (.iadd, 1) := by decide +kernel
theorem dX8_asWished_49 : decode cX8_asWished 49 = .ok (.istore_n 1, 1) := by decide +kernel
theorem dX8_asWished_50 : decode cX8_asWished 50 = .ok (.iinc 2 1, 3) := by decide +kernel
theorem dX8_asWished_53 : decode cX8_asWished 53 = .ok (.goto (-49), 3) := by decide +kernel
theorem dX8_asWished_56 : decode cX8_asWished 56 = .ok (.iload_n 1, 1) := by decide +kernel
theorem dX8_asWished_57 : decode cX8_asWished 57 = .ok (.ireturn, 1) := by decide +kernel
theorem dX8_count_0 : decode cX8_count 0 = .ok (.iload_n 1, 1) := by decide +kernel
theorem dX8_count_1 : decode cX8_count 1 = .ok (.tableswitch 95 0 7 #[47, 54, 61, 68, 75, 80, 85, 90], 47) := by decide +kernel
theorem dX8_count_48 : decode cX8_count 48 = .ok (.aload_n 0, 1) := by decide +kernel
theorem dX8_count_49 : decode cX8_count 49 = .ok (.getfield 7, 3) := by decide +kernel
theorem dX8_count_52 : decode cX8_count 52 = .ok (.iconst 0, 1) := by decide +kernel
theorem dX8_count_53 : decode cX8_count 53 = .ok (.iaload, 1) := by decide +kernel
theorem dX8_count_54 : decode cX8_count 54 = .ok (.ireturn, 1) := by decide +kernel
theorem dX8_count_55 : decode cX8_count 55 = .ok (.aload_n 0, 1) := by decide +kernel
theorem dX8_count_56 : decode cX8_count 56 = .ok (.getfield 7, 3) := by decide +kernel
theorem dX8_count_59 : decode cX8_count 59 = .ok (.iconst 1, 1) := by decide +kernel
theorem dX8_count_60 : decode cX8_count 60 = .ok (.iaload, 1) := by decide +kernel
theorem dX8_count_61 : decode cX8_count 61 = .ok (.ireturn, 1) := by decide +kernel
theorem dX8_count_62 : decode cX8_count 62 = .ok (.aload_n 0, 1) := by decide +kernel
theorem dX8_count_63 : decode cX8_count 63 = .ok (.getfield 7, 3) := by decide +kernel
theorem dX8_count_66 : decode cX8_count 66 = .ok (.iconst 2, 1) := by decide +kernel
theorem dX8_count_67 : decode cX8_count 67 = .ok (.iaload, 1) := by decide +kernel
theorem dX8_count_68 : decode cX8_count 68 = .ok (.ireturn, 1) := by decide +kernel
theorem dX8_count_69 : decode cX8_count 69 = .ok (.aload_n 0, 1) := by decide +kernel
theorem dX8_count_70 : decode cX8_count 70 = .ok (.getfield 7, 3) := by decide +kernel
theorem dX8_count_73 : decode cX8_count 73 = .ok (.iconst 3, 1) := by decide +kernel
theorem dX8_count_74 : decode cX8_count 74 = .ok (.iaload, 1) := by decide +kernel
theorem dX8_count_75 : decode cX8_count 75 = .ok (.ireturn, 1) := by decide +kernel
theorem dX8_count_76 : decode cX8_count 76 = .ok (.aload_n 0, 1) := by decide +kernel
theorem dX8_count_77 : decode cX8_count 77 = .ok (.invokevirtual 152, 3) := by decide +kernel
theorem dX8_count_80 : decode cX8_count 80 = .ok (.ireturn, 1) := by decide +kernel
theorem dX8_count_81 : decode cX8_count 81 = .ok (.aload_n 0, 1) := by decide +kernel
theorem dX8_count_82 : decode cX8_count 82 = .ok (.invokevirtual 199, 3) := by decide +kernel
theorem dX8_count_85 : decode cX8_count 85 = .ok (.ireturn, 1) := by decide +kernel
theorem dX8_count_86 : decode cX8_count 86 = .ok (.aload_n 0, 1) := by decide +kernel
theorem dX8_count_87 : decode cX8_count 87 = .ok (.getfield 48, 3) := by decide +kernel
theorem dX8_count_90 : decode cX8_count 90 = .ok (.ireturn, 1) := by decide +kernel
theorem dX8_count_91 : decode cX8_count 91 = .ok (.aload_n 0, 1) := by decide +kernel
theorem dX8_count_92 : decode cX8_count 92 = .ok (.getfield 55, 3) := by decide +kernel
theorem dX8_count_95 : decode cX8_count 95 = .ok (.ireturn, 1) := by decide +kernel
theorem dX8_count_96 : decode cX8_count 96 = .ok (.iconst (-1), 1) := by decide +kernel
theorem dX8_count_97 : decode cX8_count 97 = .ok (.ireturn, 1) := by decide +kernel
theorem dJ9_max_7cf53_0 : decode cJ9_max_7cf53 0 = .ok (.iload_n 0, 1) := by decide +kernel
theorem dJ9_max_7cf53_1 : decode cJ9_max_7cf53 1 = .ok (.iload_n 1, 1) := by decide +kernel
theorem dJ9_max_7cf53_2 : decode cJ9_max_7cf53 2 = .ok (.if_icmp .lt 7, 3) := by decide +kernel
theorem dJ9_max_7cf53_5 : decode cJ9_max_7cf53 5 = .ok (.iload_n 0, 1) := by decide +kernel
theorem dJ9_max_7cf53_6 : decode cJ9_max_7cf53 6 = .ok (.goto 4, 3) := by decide +kernel
theorem dJ9_max_7cf53_9 : decode cJ9_max_7cf53 9 = .ok (.iload_n 1, 1) := by decide +kernel
theorem dJ9_max_7cf53_10 : decode cJ9_max_7cf53 10 = .ok (.ireturn, 1) := by decide +kernel
theorem dJ9_min_7cf53_0 : decode cJ9_min_7cf53 0 = .ok (.iload_n 0, 1) := by decide +kernel
theorem dJ9_min_7cf53_1 : decode cJ9_min_7cf53 1 = .ok (.iload_n 1, 1) := by decide +kernel
theorem dJ9_min_7cf53_2 : decode cJ9_min_7cf53 2 = .ok (.if_icmp .gt 7, 3) := by decide +kernel
theorem dJ9_min_7cf53_5 : decode cJ9_min_7cf53 5 = .ok (.iload_n 0, 1) := by decide +kernel
theorem dJ9_min_7cf53_6 : decode cJ9_min_7cf53 6 = .ok (.goto 4, 3) := by decide +kernel
theorem dJ9_min_7cf53_9 : decode cJ9_min_7cf53 9 = .ok (.iload_n 1, 1) := by decide +kernel
theorem dJ9_min_7cf53_10 : decode cJ9_min_7cf53 10 = .ok (.ireturn, 1) := by decide +kernel
theorem dJ0_length_8abf5_0 : decode cJ0_length_8abf5 0 = .ok (.aload_n 0, 1) := by decide +kernel
theorem dJ0_length_8abf5_1 : decode cJ0_length_8abf5 1 = .ok (.getfield 9, 3) := by decide +kernel
theorem dJ0_length_8abf5_4 : decode cJ0_length_8abf5 4 = .ok (.arraylength, 1) := by decide +kernel
theorem dJ0_length_8abf5_5 : decode cJ0_length_8abf5 5 = .ok (.aload_n 0, 1) := by decide +kernel
theorem dJ0_length_8abf5_6 : decode cJ0_length_8abf5 6 = .ok (.invokevirtual 335, 3) := by decide +kernel
theorem dJ0_length_8abf5_9 : decode cJ0_length_8abf5 9 = .ok (.ishr, 1) := by decide +kernel
theorem dJ0_length_8abf5_10 : decode cJ0_length_8abf5 10 = .ok (.ireturn, 1) := by decide +kernel
theorem dJ0_charAt_5068e_0 : decode cJ0_charAt_5068e 0 = .ok (.aload_n 0, 1) := by decide +kernel
theorem dJ0_charAt_5068e_1 : decode cJ0_charAt_5068e 1 = .ok (.invokevirtual 492, 3) := by decide +kernel
theorem dJ0_charAt_5068e_4 : decode cJ0_charAt_5068e 4 = .ok (.ifCond .eq 12, 3) := by decide +kernel
theorem dJ0_charAt_5068e_7 : decode cJ0_charAt_5068e 7 = .ok (.aload_n 0, 1) := by decide +kernel
theorem dJ0_charAt_5068e_8 : decode cJ0_charAt_5068e 8 = .ok (.getfield 9, 3) := by decide +kernel
theorem dJ0_charAt_5068e_11 : decode cJ0_charAt_5068e 11 = .ok (.iload_n 1, 1) := by decide +kernel
theorem dJ0_charAt_5068e_12 : decode cJ0_charAt_5068e 12 = .ok (.invokestatic 495, 3) := by decide +kernel
theorem dJ0_charAt_5068e_15 : decode cJ0_charAt_5068e 15 = .ok (.ireturn, 1) := by decide +kernel
theorem dJ0_charAt_5068e_16 : decode cJ0_charAt_5068e 16 = .ok (.aload_n 0, 1) := by decide +kernel
theorem dJ0_charAt_5068e_17 : decode cJ0_charAt_5068e 17 = .ok (.getfield 9, 3) := by decide +kernel
theorem dJ0_charAt_5068e_20 : decode cJ0_charAt_5068e 20 = .ok (.iload_n 1, 1) := by decide +kernel
theorem dJ0_charAt_5068e_21 : decode cJ0_charAt_5068e 21 = .ok (.invokestatic 498, 3) := by decide +kernel
theorem dJ0_charAt_5068e_24 : decode cJ0_charAt_5068e 24 = .ok (.ireturn, 1) := by decide +kernel
theorem dJ0_coder_7d493_0 : decode cJ0_coder_7d493 0 = .ok (.getstatic 38, 3) := by decide +kernel
theorem dJ0_coder_7d493_3 : decode cJ0_coder_7d493 3 = .ok (.ifCond .eq 10, 3) := by decide +kernel
theorem dJ0_coder_7d493_6 : decode cJ0_coder_7d493 6 = .ok (.aload_n 0, 1) := by decide +kernel
theorem dJ0_coder_7d493_7 : decode cJ0_coder_7d493 7 = .ok (.getfield 15, 3) := by decide +kernel
theorem dJ0_coder_7d493_10 : decode cJ0_coder_7d493 10 = .ok (.goto 4, 3) := by decide +kernel
theorem dJ0_coder_7d493_13 : decode cJ0_coder_7d493 13 = .ok (.iconst 1, 1) := by decide +kernel
theorem dJ0_coder_7d493_14 : decode cJ0_coder_7d493 14 = .ok (.ireturn, 1) := by decide +kernel
theorem dJ0_isLatin1_aae02_0 : decode cJ0_isLatin1_aae02 0 = .ok (.getstatic 38, 3) := by decide +kernel
theorem dJ0_isLatin1_aae02_3 : decode cJ0_isLatin1_aae02 3 = .ok (.ifCond .eq 14, 3) := by decide +kernel
theorem dJ0_isLatin1_aae02_6 : decode cJ0_isLatin1_aae02 6 = .ok (.aload_n 0, 1) := by decide +kernel
theorem dJ0_isLatin1_aae02_7 : decode cJ0_isLatin1_aae02 7 = .ok (.getfield 15, 3) := by decide +kernel
theorem dJ0_isLatin1_aae02_10 : decode cJ0_isLatin1_aae02 10 = .ok (.ifCond .ne 7, 3) := by decide +kernel
theorem dJ0_isLatin1_aae02_13 : decode cJ0_isLatin1_aae02 13 = .ok (.iconst 1, 1) := by decide +kernel
theorem dJ0_isLatin1_aae02_14 : decode cJ0_isLatin1_aae02 14 = .ok (.goto 4, 3) := by decide +kernel
theorem dJ0_isLatin1_aae02_17 : decode cJ0_isLatin1_aae02 17 = .ok (.iconst 0, 1) := by decide +kernel
theorem dJ0_isLatin1_aae02_18 : decode cJ0_isLatin1_aae02 18 = .ok (.ireturn, 1) := by decide +kernel
theorem dJ0_checkIndex_df160_0 : decode cJ0_checkIndex_df160 0 = .ok (.iload_n 0, 1) := by decide +kernel
theorem dJ0_checkIndex_df160_1 : decode cJ0_checkIndex_df160 1 = .ok (.iload_n 1, 1) := by decide +kernel
theorem dJ0_checkIndex_df160_2 : decode cJ0_checkIndex_df160 2 = .ok (.getstatic 1053, 3) := by decide +kernel
theorem dJ0_checkIndex_df160_5 : decode cJ0_checkIndex_df160 5 = .ok (.invokestatic 1059, 3) := by decide +kernel
theorem dJ0_checkIndex_df160_8 : decode cJ0_checkIndex_df160 8 = .ok (.pop, 1) := by decide +kernel
theorem dJ0_checkIndex_df160_9 : decode cJ0_checkIndex_df160 9 = .ok (.return_, 1) := by decide +kernel
theorem dJ1_charAt_3b067_0 : decode cJ1_charAt_3b067 0 = .ok (.iload_n 1, 1) := by decide +kernel
theorem dJ1_charAt_3b067_1 : decode cJ1_charAt_3b067 1 = .ok (.aload_n 0, 1) := by decide +kernel
theorem dJ1_charAt_3b067_2 : decode cJ1_charAt_3b067 2 = .ok (.arraylength, 1) := by decide +kernel
theorem dJ1_charAt_3b067_3 : decode cJ1_charAt_3b067 3 = .ok (.invokestatic 9, 3) := by decide +kernel
theorem dJ1_charAt_3b067_6 : decode cJ1_charAt_3b067 6 = .ok (.aload_n 0, 1) := by decide +kernel
theorem dJ1_charAt_3b067_7 : decode cJ1_charAt_3b067 7 = .ok (.iload_n 1, 1) := by decide +kernel
theorem dJ1_charAt_3b067_8 : decode cJ1_charAt_3b067 8 = .ok (.baload, 1) := by decide +kernel
theorem dJ1_charAt_3b067_9 : decode cJ1_charAt_3b067 9 = .ok (.sipush 255, 3) := by decide +kernel
theorem dJ1_charAt_3b067_12 : decode cJ1_charAt_3b067 12 = .ok (.iand, 1) := by decide +kernel
theorem dJ1_charAt_3b067_13 : decode cJ1_charAt_3b067 13 = .ok (.i2c, 1) := by decide +kernel
theorem dJ1_charAt_3b067_14 : decode cJ1_charAt_3b067 14 = .ok (.ireturn, 1) := by decide +kernel
theorem dJ2_getChar_3b067_0 : decode cJ2_getChar_3b067 0 = .ok (.getstatic 44, 3) := by decide +kernel
theorem dJ2_getChar_3b067_3 : decode cJ2_getChar_3b067 3 = .ok (.ifCond .ne 25, 3) := by decide +kernel
theorem dJ2_getChar_3b067_6 : decode cJ2_getChar_3b067 6 = .ok (.iload_n 1, 1) := by decide +kernel
theorem dJ2_getChar_3b067_7 : decode cJ2_getChar_3b067 7 = .ok (.ifCond .lt 11, 3) := by decide +kernel
theorem dJ2_getChar_3b067_10 : decode cJ2_getChar_3b067 10 = .ok (.iload_n 1, 1) := by decide +kernel
theorem dJ2_getChar_3b067_11 : decode cJ2_getChar_3b067 11 = .ok (.aload_n 0, 1) := by decide +kernel
theorem dJ2_getChar_3b067_12 : decode cJ2_getChar_3b067 12 = .ok (.invokestatic 48, 3) := by decide +kernel
theorem dJ2_getChar_3b067_15 : decode cJ2_getChar_3b067 15 = .ok (.if_icmp .lt 13, 3) := by decide +kernel
theorem dJ2_getChar_3b067_18 : decode cJ2_getChar_3b067 18 = .ok (.new 52, 3) := by decide +kernel
theorem dJ2_getChar_3b067_21 : decode cJ2_getChar_3b067 21 = .ok (.dup, 1) := by decide +kernel
theorem dJ2_getChar_3b067_22 : decode cJ2_getChar_3b067 22 = .ok (.ldc 54, 2) := by decide +kernel
theorem dJ2_getChar_3b067_24 : decode cJ2_getChar_3b067 24 = .ok (.invokespecial 56, 3) := by decide +kernel
theorem dJ2_getChar_3b067_27 : decode cJ2_getChar_3b067 27 = .ok (.athrow, 1) := by decide +kernel
theorem dJ2_getChar_3b067_28 : decode cJ2_getChar_3b067 28 = .ok (.iload_n 1, 1) := by decide +kernel
theorem dJ2_getChar_3b067_29 : decode cJ2_getChar_3b067 29 = .ok (.iconst 1, 1) := by decide +kernel
theorem dJ2_getChar_3b067_30 : decode cJ2_getChar_3b067 30 = .ok (.ishl, 1) := by decide +kernel
theorem dJ2_getChar_3b067_31 : decode cJ2_getChar_3b067 31 = .ok (.istore_n 1, 1) := by decide +kernel
theorem dJ2_getChar_3b067_32 : decode cJ2_getChar_3b067 32 = .ok (.aload_n 0, 1) := by decide +kernel
theorem dJ2_getChar_3b067_33 : decode cJ2_getChar_3b067 33 = .ok (.iload_n 1, 1) := by decide +kernel
theorem dJ2_getChar_3b067_34 : decode cJ2_getChar_3b067 34 = .ok (.iinc 1 1, 3) := by decide +kernel
theorem dJ2_getChar_3b067_37 : decode cJ2_getChar_3b067 37 = .ok (.baload, 1) := by decide +kernel
theorem dJ2_getChar_3b067_38 : decode cJ2_getChar_3b067 38 = .ok (.sipush 255, 3) := by decide +kernel
theorem dJ2_getChar_3b067_41 : decode cJ2_getChar_3b067 41 = .ok (.iand, 1) := by decide +kernel
theorem dJ2_getChar_3b067_42 : decode cJ2_getChar_3b067 42 = .ok (.getstatic 59, 3) := by decide +kernel
theorem dJ2_getChar_3b067_45 : decode cJ2_getChar_3b067 45 = .ok (.ishl, 1) := by decide +kernel
theorem dJ2_getChar_3b067_46 : decode cJ2_getChar_3b067 46 = .ok (.aload_n 0, 1) := by decide +kernel
theorem dJ2_getChar_3b067_47 : decode cJ2_getChar_3b067 47 = .ok (.iload_n 1, 1) := by decide +kernel
theorem dJ2_getChar_3b067_48 : decode cJ2_getChar_3b067 48 = .ok (.baload, 1) := by decide +kernel
theorem dJ2_getChar_3b067_49 : decode cJ2_getChar_3b067 49 = .ok (.sipush 255, 3) := by decide +kernel
theorem dJ2_getChar_3b067_52 : decode cJ2_getChar_3b067 52 = .ok (.iand, 1) := by decide +kernel
theorem dJ2_getChar_3b067_53 : decode cJ2_getChar_3b067 53 = .ok (.getstatic 63, 3) := by decide +kernel
theorem dJ2_getChar_3b067_56 : decode cJ2_getChar_3b067 56 = .ok (.ishl, 1) := by decide +kernel
theorem dJ2_getChar_3b067_57 : decode cJ2_getChar_3b067 57 = .ok (.ior, 1) := by decide +kernel
theorem dJ2_getChar_3b067_58 : decode cJ2_getChar_3b067 58 = .ok (.i2c, 1) := by decide +kernel
theorem dJ2_getChar_3b067_59 : decode cJ2_getChar_3b067 59 = .ok (.ireturn, 1) := by decide +kernel
theorem dJ2_length_9d52b_0 : decode cJ2_length_9d52b 0 = .ok (.aload_n 0, 1) := by decide +kernel
theorem dJ2_length_9d52b_1 : decode cJ2_length_9d52b 1 = .ok (.arraylength, 1) := by decide +kernel
theorem dJ2_length_9d52b_2 : decode cJ2_length_9d52b 2 = .ok (.iconst 1, 1) := by decide +kernel
theorem dJ2_length_9d52b_3 : decode cJ2_length_9d52b 3 = .ok (.ishr, 1) := by decide +kernel
theorem dJ2_length_9d52b_4 : decode cJ2_length_9d52b 4 = .ok (.ireturn, 1) := by decide +kernel
theorem dJ2_charAt_3b067_0 : decode cJ2_charAt_3b067 0 = .ok (.iload_n 1, 1) := by decide +kernel
theorem dJ2_charAt_3b067_1 : decode cJ2_charAt_3b067 1 = .ok (.aload_n 0, 1) := by decide +kernel
theorem dJ2_charAt_3b067_2 : decode cJ2_charAt_3b067 2 = .ok (.invokestatic 67, 3) := by decide +kernel
theorem dJ2_charAt_3b067_5 : decode cJ2_charAt_3b067 5 = .ok (.aload_n 0, 1) := by decide +kernel
theorem dJ2_charAt_3b067_6 : decode cJ2_charAt_3b067 6 = .ok (.iload_n 1, 1) := by decide +kernel
theorem dJ2_charAt_3b067_7 : decode cJ2_charAt_3b067 7 = .ok (.invokestatic 71, 3) := by decide +kernel
theorem dJ2_charAt_3b067_10 : decode cJ2_charAt_3b067 10 = .ok (.ireturn, 1) := by decide +kernel
theorem dJ2_checkIndex_2214a_0 : decode cJ2_checkIndex_2214a 0 = .ok (.iload_n 0, 1) := by decide +kernel
theorem dJ2_checkIndex_2214a_1 : decode cJ2_checkIndex_2214a 1 = .ok (.aload_n 1, 1) := by decide +kernel
theorem dJ2_checkIndex_2214a_2 : decode cJ2_checkIndex_2214a 2 = .ok (.invokestatic 48, 3) := by decide +kernel
theorem dJ2_checkIndex_2214a_5 : decode cJ2_checkIndex_2214a 5 = .ok (.invokestatic 414, 3) := by decide +kernel
theorem dJ2_checkIndex_2214a_8 : decode cJ2_checkIndex_2214a 8 = .ok (.return_, 1) := by decide +kernel
theorem dJ3_checkIndex_8e157_0 : decode cJ3_checkIndex_8e157 0 = .ok (.iload_n 0, 1) := by decide +kernel
theorem dJ3_checkIndex_8e157_1 : decode cJ3_checkIndex_8e157 1 = .ok (.ifCond .lt 8, 3) := by decide +kernel
theorem dJ3_checkIndex_8e157_4 : decode cJ3_checkIndex_8e157 4 = .ok (.iload_n 0, 1) := by decide +kernel
theorem dJ3_checkIndex_8e157_5 : decode cJ3_checkIndex_8e157 5 = .ok (.iload_n 1, 1) := by decide +kernel
theorem dJ3_checkIndex_8e157_6 : decode cJ3_checkIndex_8e157 6 = .ok (.if_icmp .lt 10, 3) := by decide +kernel
theorem dJ3_checkIndex_8e157_9 : decode cJ3_checkIndex_8e157 9 = .ok (.aload_n 2, 1) := by decide +kernel
theorem dJ3_checkIndex_8e157_10 : decode cJ3_checkIndex_8e157 10 = .ok (.iload_n 0, 1) := by decide +kernel
theorem dJ3_checkIndex_8e157_11 : decode cJ3_checkIndex_8e157 11 = .ok (.iload_n 1, 1) := by decide +kernel
theorem dJ3_checkIndex_8e157_12 : decode cJ3_checkIndex_8e157 12 = .ok (.invokestatic 95, 3) := by decide +kernel
theorem dJ3_checkIndex_8e157_15 : decode cJ3_checkIndex_8e157 15 = .ok (.athrow, 1) := by decide +kernel
theorem dJ3_checkIndex_8e157_16 : decode cJ3_checkIndex_8e157 16 = .ok (.iload_n 0, 1) := by decide +kernel
theorem dJ3_checkIndex_8e157_17 : decode cJ3_checkIndex_8e157 17 = .ok (.ireturn, 1) := by decide +kernel
theorem dL_law_0 : decode cL_law 0 = .ok (.new 7, 3) := by decide +kernel
theorem dL_law_3 : decode cL_law 3 = .ok (.dup, 1) := by decide +kernel
theorem dL_law_4 : decode cL_law 4 = .ok (.invokespecial 9, 3) := by decide +kernel
theorem dL_law_7 : decode cL_law 7 = .ok (.astore_n 1, 1) := by decide +kernel
theorem dL_law_8 : decode cL_law 8 = .ok (.new 10, 3) := by decide +kernel
theorem dL_law_11 : decode cL_law 11 = .ok (.dup, 1) := by decide +kernel
theorem dL_law_12 : decode cL_law 12 = .ok (.invokespecial 12, 3) := by decide +kernel
theorem dL_law_15 : decode cL_law 15 = .ok (.astore_n 2, 1) := by decide +kernel
theorem dL_law_16 : decode cL_law 16 = .ok (.iconst 0, 1) := by decide +kernel
theorem dL_law_17 : decode cL_law 17 = .ok (.istore_n 3, 1) := by decide +kernel
theorem dL_law_18 : decode cL_law 18 = .ok (.iload_n 3, 1) := by decide +kernel
theorem dL_law_19 : decode cL_law 19 = .ok (.aload_n 0, 1) := by decide +kernel
theorem dL_law_20 : decode cL_law 20 = .ok (.arraylength, 1) := by decide +kernel
theorem dL_law_21 : decode cL_law 21 = .ok (.iconst 5, 1) := by decide +kernel
theorem dL_law_22 : decode cL_law 22 = .ok (.isub, 1) := by decide +kernel
theorem dL_law_23 : decode cL_law 23 = .ok (.if_icmp .gt 651, 3) := by decide +kernel
theorem dL_law_26 : decode cL_law 26 = .ok (.aload_n 0, 1) := by decide +kernel
theorem dL_law_27 : decode cL_law 27 = .ok (.iload_n 3, 1) := by decide +kernel
theorem dL_law_28 : decode cL_law 28 = .ok (.iaload, 1) := by decide +kernel
theorem dL_law_29 : decode cL_law 29 = .ok (.bipush 31, 2) := by decide +kernel
theorem dL_law_31 : decode cL_law 31 = .ok (.iand, 1) := by decide +kernel
theorem dL_law_32 : decode cL_law 32 = .ok (.tableswitch 636 0 19 #[96, 119, 132, 145, 158, 191, 224, 257, 280, 313, 366, 399, 432, 465, 488, 511, 524, 557, 580, 613], 96) := by decide +kernel
theorem dL_law_128 : decode cL_law 128 = .ok (.aload_n 1, 1) := by decide +kernel
theorem dL_law_129 : decode cL_law 129 = .ok (.aload_n 0, 1) := by decide +kernel
theorem dL_law_130 : decode cL_law 130 = .ok (.iload_n 3, 1) := by decide +kernel
theorem dL_law_131 : decode cL_law 131 = .ok (.iconst 1, 1) := by decide +kernel
theorem dL_law_132 : decode cL_law 132 = .ok (.iadd, 1) := by decide +kernel
theorem dL_law_133 : decode cL_law 133 = .ok (.iaload, 1) := by decide +kernel
theorem dL_law_134 : decode cL_law 134 = .ok (.invokevirtual 13, 3) := by decide +kernel
theorem dL_law_137 : decode cL_law 137 = .ok (.aload_n 2, 1) := by decide +kernel
theorem dL_law_138 : decode cL_law 138 = .ok (.aload_n 0, 1) := by decide +kernel
theorem dL_law_139 : decode cL_law 139 = .ok (.iload_n 3, 1) := by decide +kernel
theorem dL_law_140 : decode cL_law 140 = .ok (.iconst 1, 1) := by decide +kernel
theorem dL_law_141 : decode cL_law 141 = .ok (.iadd, 1) := by decide +kernel
theorem dL_law_142 : decode cL_law 142 = .ok (.iaload, 1) := by decide +kernel
theorem dL_law_143 : decode cL_law 143 = .ok (.invokevirtual 17, 3) := by decide +kernel
theorem dL_law_146 : decode cL_law 146 = .ok (.if_icmp .eq 522, 3) := by decide +kernel
theorem dL_law_149 : decode cL_law 149 = .ok (.iconst 0, 1) := by decide +kernel
theorem dL_law_150 : decode cL_law 150 = .ok (.ireturn, 1) := by decide +kernel
theorem dL_law_151 : decode cL_law 151 = .ok (.aload_n 1, 1) := by decide +kernel
theorem dL_law_152 : decode cL_law 152 = .ok (.invokevirtual 18, 3) := by decide +kernel
theorem dL_law_155 : decode cL_law 155 = .ok (.aload_n 2, 1) := by decide +kernel
theorem dL_law_156 : decode cL_law 156 = .ok (.invokevirtual 22, 3) := by decide +kernel
theorem dL_law_159 : decode cL_law 159 = .ok (.if_icmp .eq 509, 3) := by decide +kernel
theorem dL_law_162 : decode cL_law 162 = .ok (.iconst 0, 1) := by decide +kernel
theorem dL_law_163 : decode cL_law 163 = .ok (.ireturn, 1) := by decide +kernel
theorem dL_law_164 : decode cL_law 164 = .ok (.aload_n 1, 1) := by decide +kernel
theorem dL_law_165 : decode cL_law 165 = .ok (.invokevirtual 23, 3) := by decide +kernel
theorem dL_law_168 : decode cL_law 168 = .ok (.aload_n 2, 1) := by decide +kernel
theorem dL_law_169 : decode cL_law 169 = .ok (.invokevirtual 26, 3) := by decide +kernel
theorem dL_law_172 : decode cL_law 172 = .ok (.if_icmp .eq 496, 3) := by decide +kernel
theorem dL_law_175 : decode cL_law 175 = .ok (.iconst 0, 1) := by decide +kernel
theorem dL_law_176 : decode cL_law 176 = .ok (.ireturn, 1) := by decide +kernel
theorem dL_law_177 : decode cL_law 177 = .ok (.aload_n 1, 1) := by decide +kernel
theorem dL_law_178 : decode cL_law 178 = .ok (.invokevirtual 27, 3) := by decide +kernel
theorem dL_law_181 : decode cL_law 181 = .ok (.aload_n 2, 1) := by decide +kernel
theorem dL_law_182 : decode cL_law 182 = .ok (.invokevirtual 30, 3) := by decide +kernel
theorem dL_law_185 : decode cL_law 185 = .ok (.if_icmp .eq 483, 3) := by decide +kernel
theorem dL_law_188 : decode cL_law 188 = .ok (.iconst 0, 1) := by decide +kernel
theorem dL_law_189 : decode cL_law 189 = .ok (.ireturn, 1) := by decide +kernel
theorem dL_law_190 : decode cL_law 190 = .ok (.aload_n 1, 1) := by decide +kernel
theorem dL_law_191 : decode cL_law 191 = .ok (.aload_n 0, 1) := by decide +kernel
theorem dL_law_192 : decode cL_law 192 = .ok (.iload_n 3, 1) := by decide +kernel
theorem dL_law_193 : decode cL_law 193 = .ok (.iconst 1, 1) := by decide +kernel
theorem dL_law_194 : decode cL_law 194 = .ok (.iadd, 1) := by decide +kernel
theorem dL_law_195 : decode cL_law 195 = .ok (.iaload, 1) := by decide +kernel
theorem dL_law_196 : decode cL_law 196 = .ok (.aload_n 0, 1) := by decide +kernel
theorem dL_law_197 : decode cL_law 197 = .ok (.iload_n 3, 1) := by decide +kernel
theorem dL_law_198 : decode cL_law 198 = .ok (.iconst 2, 1) := by decide +kernel
theorem dL_law_199 : decode cL_law 199 = .ok (.iadd, 1) := by decide +kernel
theorem dL_law_200 : decode cL_law 200 = .ok (.iaload, 1) := by decide +kernel
theorem dL_law_201 : decode cL_law 201 = .ok (.invokevirtual 31, 3) := by decide +kernel
theorem dL_law_204 : decode cL_law 204 = .ok (.aload_n 2, 1) := by decide +kernel
theorem dL_law_205 : decode cL_law 205 = .ok (.aload_n 0, 1) := by decide +kernel
theorem dL_law_206 : decode cL_law 206 = .ok (.iload_n 3, 1) := by decide +kernel
theorem dL_law_207 : decode cL_law 207 = .ok (.iconst 1, 1) := by decide +kernel
theorem dL_law_208 : decode cL_law 208 = .ok (.iadd, 1) := by decide +kernel
theorem dL_law_209 : decode cL_law 209 = .ok (.iaload, 1) := by decide +kernel
theorem dL_law_210 : decode cL_law 210 = .ok (.aload_n 0, 1) := by decide +kernel
theorem dL_law_211 : decode cL_law 211 = .ok (.iload_n 3, 1) := by decide +kernel
theorem dL_law_212 : decode cL_law 212 = .ok (.iconst 2, 1) := by decide +kernel
theorem dL_law_213 : decode cL_law 213 = .ok (.iadd, 1) := by decide +kernel
theorem dL_law_214 : decode cL_law 214 = .ok (.iaload, 1) := by decide +kernel
theorem dL_law_215 : decode cL_law 215 = .ok (.invokevirtual 35, 3) := by decide +kernel
theorem dL_law_218 : decode cL_law 218 = .ok (.if_icmp .eq 450, 3) := by decide +kernel
theorem dL_law_221 : decode cL_law 221 = .ok (.iconst 0, 1) := by decide +kernel
theorem dL_law_222 : decode cL_law 222 = .ok (.ireturn, 1) := by decide +kernel
theorem dL_law_223 : decode cL_law 223 = .ok (.aload_n 1, 1) := by decide +kernel
theorem dL_law_224 : decode cL_law 224 = .ok (.aload_n 0, 1) := by decide +kernel
theorem dL_law_225 : decode cL_law 225 = .ok (.iload_n 3, 1) := by decide +kernel
theorem dL_law_226 : decode cL_law 226 = .ok (.iconst 1, 1) := by decide +kernel
theorem dL_law_227 : decode cL_law 227 = .ok (.iadd, 1) := by decide +kernel
theorem dL_law_228 : decode cL_law 228 = .ok (.iaload, 1) := by decide +kernel
theorem dL_law_229 : decode cL_law 229 = .ok (.aload_n 0, 1) := by decide +kernel
theorem dL_law_230 : decode cL_law 230 = .ok (.iload_n 3, 1) := by decide +kernel
theorem dL_law_231 : decode cL_law 231 = .ok (.iconst 2, 1) := by decide +kernel
theorem dL_law_232 : decode cL_law 232 = .ok (.iadd, 1) := by decide +kernel
theorem dL_law_233 : decode cL_law 233 = .ok (.iaload, 1) := by decide +kernel
theorem dL_law_234 : decode cL_law 234 = .ok (.invokevirtual 36, 3) := by decide +kernel
theorem dL_law_237 : decode cL_law 237 = .ok (.aload_n 2, 1) := by decide +kernel
theorem dL_law_238 : decode cL_law 238 = .ok (.aload_n 0, 1) := by decide +kernel
theorem dL_law_239 : decode cL_law 239 = .ok (.iload_n 3, 1) := by decide +kernel
theorem dL_law_240 : decode cL_law 240 = .ok (.iconst 1, 1) := by decide +kernel
theorem dL_law_241 : decode cL_law 241 = .ok (.iadd, 1) := by decide +kernel
theorem dL_law_242 : decode cL_law 242 = .ok (.iaload, 1) := by decide +kernel
theorem dL_law_243 : decode cL_law 243 = .ok (.aload_n 0, 1) := by decide +kernel
theorem dL_law_244 : decode cL_law 244 = .ok (.iload_n 3, 1) := by decide +kernel
theorem dL_law_245 : decode cL_law 245 = .ok (.iconst 2, 1) := by decide +kernel
theorem dL_law_246 : decode cL_law 246 = .ok (.iadd, 1) := by decide +kernel
theorem dL_law_247 : decode cL_law 247 = .ok (.iaload, 1) := by decide +kernel
theorem dL_law_248 : decode cL_law 248 = .ok (.invokevirtual 39, 3) := by decide +kernel
theorem dL_law_251 : decode cL_law 251 = .ok (.if_icmp .eq 417, 3) := by decide +kernel
theorem dL_law_254 : decode cL_law 254 = .ok (.iconst 0, 1) := by decide +kernel
theorem dL_law_255 : decode cL_law 255 = .ok (.ireturn, 1) := by decide +kernel
theorem dL_law_256 : decode cL_law 256 = .ok (.aload_n 1, 1) := by decide +kernel
theorem dL_law_257 : decode cL_law 257 = .ok (.aload_n 0, 1) := by decide +kernel
theorem dL_law_258 : decode cL_law 258 = .ok (.iload_n 3, 1) := by decide +kernel
theorem dL_law_259 : decode cL_law 259 = .ok (.iconst 1, 1) := by decide +kernel
theorem dL_law_260 : decode cL_law 260 = .ok (.iadd, 1) := by decide +kernel
theorem dL_law_261 : decode cL_law 261 = .ok (.iaload, 1) := by decide +kernel
theorem dL_law_262 : decode cL_law 262 = .ok (.aload_n 0, 1) := by decide +kernel
theorem dL_law_263 : decode cL_law 263 = .ok (.iload_n 3, 1) := by decide +kernel
theorem dL_law_264 : decode cL_law 264 = .ok (.iconst 2, 1) := by decide +kernel
theorem dL_law_265 : decode cL_law 265 = .ok (.iadd, 1) := by decide +kernel
theorem dL_law_266 : decode cL_law 266 = .ok (.iaload, 1) := by decide +kernel
theorem dL_law_267 : decode cL_law 267 = .ok (.invokevirtual 40, 3) := by decide +kernel
theorem dL_law_270 : decode cL_law 270 = .ok (.aload_n 2, 1) := by decide +kernel
theorem dL_law_271 : decode cL_law 271 = .ok (.aload_n 0, 1) := by decide +kernel
theorem dL_law_272 : decode cL_law 272 = .ok (.iload_n 3, 1) := by decide +kernel
theorem dL_law_273 : decode cL_law 273 = .ok (.iconst 1, 1) := by decide +kernel
theorem dL_law_274 : decode cL_law 274 = .ok (.iadd, 1) := by decide +kernel
theorem dL_law_275 : decode cL_law 275 = .ok (.iaload, 1) := by decide +kernel
theorem dL_law_276 : decode cL_law 276 = .ok (.aload_n 0, 1) := by decide +kernel
theorem dL_law_277 : decode cL_law 277 = .ok (.iload_n 3, 1) := by decide +kernel
theorem dL_law_278 : decode cL_law 278 = .ok (.iconst 2, 1) := by decide +kernel
theorem dL_law_279 : decode cL_law 279 = .ok (.iadd, 1) := by decide +kernel
theorem dL_law_280 : decode cL_law 280 = .ok (.iaload, 1) := by decide +kernel
theorem dL_law_281 : decode cL_law 281 = .ok (.invokevirtual 43, 3) := by decide +kernel
theorem dL_law_284 : decode cL_law 284 = .ok (.if_icmp .eq 384, 3) := by decide +kernel
theorem dL_law_287 : decode cL_law 287 = .ok (.iconst 0, 1) := by decide +kernel
theorem dL_law_288 : decode cL_law 288 = .ok (.ireturn, 1) := by decide +kernel
theorem dL_law_289 : decode cL_law 289 = .ok (.aload_n 1, 1) := by decide +kernel
theorem dL_law_290 : decode cL_law 290 = .ok (.aload_n 0, 1) := by decide +kernel
theorem dL_law_291 : decode cL_law 291 = .ok (.iload_n 3, 1) := by decide +kernel
theorem dL_law_292 : decode cL_law 292 = .ok (.iconst 1, 1) := by decide +kernel
theorem dL_law_293 : decode cL_law 293 = .ok (.iadd, 1) := by decide +kernel
theorem dL_law_294 : decode cL_law 294 = .ok (.iaload, 1) := by decide +kernel
theorem dL_law_295 : decode cL_law 295 = .ok (.invokevirtual 44, 3) := by decide +kernel
theorem dL_law_298 : decode cL_law 298 = .ok (.aload_n 2, 1) := by decide +kernel
theorem dL_law_299 : decode cL_law 299 = .ok (.aload_n 0, 1) := by decide +kernel
theorem dL_law_300 : decode cL_law 300 = .ok (.iload_n 3, 1) := by decide +kernel
theorem dL_law_301 : decode cL_law 301 = .ok (.iconst 1, 1) := by decide +kernel
theorem dL_law_302 : decode cL_law 302 = .ok (.iadd, 1) := by decide +kernel
theorem dL_law_303 : decode cL_law 303 = .ok (.iaload, 1) := by decide +kernel
theorem dL_law_304 : decode cL_law 304 = .ok (.invokevirtual 47, 3) := by decide +kernel
theorem dL_law_307 : decode cL_law 307 = .ok (.if_icmp .eq 361, 3) := by decide +kernel
theorem dL_law_310 : decode cL_law 310 = .ok (.iconst 0, 1) := by decide +kernel
theorem dL_law_311 : decode cL_law 311 = .ok (.ireturn, 1) := by decide +kernel
theorem dL_law_312 : decode cL_law 312 = .ok (.aload_n 1, 1) := by decide +kernel
theorem dL_law_313 : decode cL_law 313 = .ok (.aload_n 0, 1) := by decide +kernel
theorem dL_law_314 : decode cL_law 314 = .ok (.iload_n 3, 1) := by decide +kernel
theorem dL_law_315 : decode cL_law 315 = .ok (.iconst 1, 1) := by decide +kernel
theorem dL_law_316 : decode cL_law 316 = .ok (.iadd, 1) := by decide +kernel
theorem dL_law_317 : decode cL_law 317 = .ok (.iaload, 1) := by decide +kernel
theorem dL_law_318 : decode cL_law 318 = .ok (.aload_n 0, 1) := by decide +kernel
theorem dL_law_319 : decode cL_law 319 = .ok (.iload_n 3, 1) := by decide +kernel
theorem dL_law_320 : decode cL_law 320 = .ok (.iconst 2, 1) := by decide +kernel
theorem dL_law_321 : decode cL_law 321 = .ok (.iadd, 1) := by decide +kernel
theorem dL_law_322 : decode cL_law 322 = .ok (.iaload, 1) := by decide +kernel
theorem dL_law_323 : decode cL_law 323 = .ok (.invokevirtual 48, 3) := by decide +kernel
theorem dL_law_326 : decode cL_law 326 = .ok (.aload_n 2, 1) := by decide +kernel
theorem dL_law_327 : decode cL_law 327 = .ok (.aload_n 0, 1) := by decide +kernel
theorem dL_law_328 : decode cL_law 328 = .ok (.iload_n 3, 1) := by decide +kernel
theorem dL_law_329 : decode cL_law 329 = .ok (.iconst 1, 1) := by decide +kernel
theorem dL_law_330 : decode cL_law 330 = .ok (.iadd, 1) := by decide +kernel
theorem dL_law_331 : decode cL_law 331 = .ok (.iaload, 1) := by decide +kernel
theorem dL_law_332 : decode cL_law 332 = .ok (.aload_n 0, 1) := by decide +kernel
theorem dL_law_333 : decode cL_law 333 = .ok (.iload_n 3, 1) := by decide +kernel
theorem dL_law_334 : decode cL_law 334 = .ok (.iconst 2, 1) := by decide +kernel
theorem dL_law_335 : decode cL_law 335 = .ok (.iadd, 1) := by decide +kernel
theorem dL_law_336 : decode cL_law 336 = .ok (.iaload, 1) := by decide +kernel
theorem dL_law_337 : decode cL_law 337 = .ok (.invokevirtual 51, 3) := by decide +kernel
theorem dL_law_340 : decode cL_law 340 = .ok (.if_icmp .eq 328, 3) := by decide +kernel
theorem dL_law_343 : decode cL_law 343 = .ok (.iconst 0, 1) := by decide +kernel
theorem dL_law_344 : decode cL_law 344 = .ok (.ireturn, 1) := by decide +kernel
theorem dL_law_345 : decode cL_law 345 = .ok (.aload_n 1, 1) := by decide +kernel
theorem dL_law_346 : decode cL_law 346 = .ok (.aload_n 0, 1) := by decide +kernel
theorem dL_law_347 : decode cL_law 347 = .ok (.iload_n 3, 1) := by decide +kernel
theorem dL_law_348 : decode cL_law 348 = .ok (.iconst 1, 1) := by decide +kernel
theorem dL_law_349 : decode cL_law 349 = .ok (.iadd, 1) := by decide +kernel
theorem dL_law_350 : decode cL_law 350 = .ok (.iaload, 1) := by decide +kernel
theorem dL_law_351 : decode cL_law 351 = .ok (.aload_n 0, 1) := by decide +kernel
theorem dL_law_352 : decode cL_law 352 = .ok (.iload_n 3, 1) := by decide +kernel
theorem dL_law_353 : decode cL_law 353 = .ok (.iconst 2, 1) := by decide +kernel
theorem dL_law_354 : decode cL_law 354 = .ok (.iadd, 1) := by decide +kernel
theorem dL_law_355 : decode cL_law 355 = .ok (.iaload, 1) := by decide +kernel
theorem dL_law_356 : decode cL_law 356 = .ok (.aload_n 0, 1) := by decide +kernel
theorem dL_law_357 : decode cL_law 357 = .ok (.iload_n 3, 1) := by decide +kernel
theorem dL_law_358 : decode cL_law 358 = .ok (.iconst 3, 1) := by decide +kernel
theorem dL_law_359 : decode cL_law 359 = .ok (.iadd, 1) := by decide +kernel
theorem dL_law_360 : decode cL_law 360 = .ok (.iaload, 1) := by decide +kernel
theorem dL_law_361 : decode cL_law 361 = .ok (.aload_n 0, 1) := by decide +kernel
theorem dL_law_362 : decode cL_law 362 = .ok (.iload_n 3, 1) := by decide +kernel
theorem dL_law_363 : decode cL_law 363 = .ok (.iconst 4, 1) := by decide +kernel
theorem dL_law_364 : decode cL_law 364 = .ok (.iadd, 1) := by decide +kernel
theorem dL_law_365 : decode cL_law 365 = .ok (.iaload, 1) := by decide +kernel
theorem dL_law_366 : decode cL_law 366 = .ok (.invokevirtual 52, 3) := by decide +kernel
theorem dL_law_369 : decode cL_law 369 = .ok (.aload_n 2, 1) := by decide +kernel
theorem dL_law_370 : decode cL_law 370 = .ok (.aload_n 0, 1) := by decide +kernel
theorem dL_law_371 : decode cL_law 371 = .ok (.iload_n 3, 1) := by decide +kernel
theorem dL_law_372 : decode cL_law 372 = .ok (.iconst 1, 1) := by decide +kernel
theorem dL_law_373 : decode cL_law 373 = .ok (.iadd, 1) := by decide +kernel
theorem dL_law_374 : decode cL_law 374 = .ok (.iaload, 1) := by decide +kernel
theorem dL_law_375 : decode cL_law 375 = .ok (.aload_n 0, 1) := by decide +kernel
theorem dL_law_376 : decode cL_law 376 = .ok (.iload_n 3, 1) := by decide +kernel
theorem dL_law_377 : decode cL_law 377 = .ok (.iconst 2, 1) := by decide +kernel
theorem dL_law_378 : decode cL_law 378 = .ok (.iadd, 1) := by decide +kernel
theorem dL_law_379 : decode cL_law 379 = .ok (.iaload, 1) := by decide +kernel
theorem dL_law_380 : decode cL_law 380 = .ok (.aload_n 0, 1) := by decide +kernel
theorem dL_law_381 : decode cL_law 381 = .ok (.iload_n 3, 1) := by decide +kernel
theorem dL_law_382 : decode cL_law 382 = .ok (.iconst 3, 1) := by decide +kernel
theorem dL_law_383 : decode cL_law 383 = .ok (.iadd, 1) := by decide +kernel
theorem dL_law_384 : decode cL_law 384 = .ok (.iaload, 1) := by decide +kernel
theorem dL_law_385 : decode cL_law 385 = .ok (.aload_n 0, 1) := by decide +kernel
theorem dL_law_386 : decode cL_law 386 = .ok (.iload_n 3, 1) := by decide +kernel
theorem dL_law_387 : decode cL_law 387 = .ok (.iconst 4, 1) := by decide +kernel
theorem dL_law_388 : decode cL_law 388 = .ok (.iadd, 1) := by decide +kernel
theorem dL_law_389 : decode cL_law 389 = .ok (.iaload, 1) := by decide +kernel
theorem dL_law_390 : decode cL_law 390 = .ok (.invokevirtual 56, 3) := by decide +kernel
theorem dL_law_393 : decode cL_law 393 = .ok (.if_icmp .eq 275, 3) := by decide +kernel
theorem dL_law_396 : decode cL_law 396 = .ok (.iconst 0, 1) := by decide +kernel
theorem dL_law_397 : decode cL_law 397 = .ok (.ireturn, 1) := by decide +kernel
theorem dL_law_398 : decode cL_law 398 = .ok (.aload_n 1, 1) := by decide +kernel
theorem dL_law_399 : decode cL_law 399 = .ok (.aload_n 0, 1) := by decide +kernel
theorem dL_law_400 : decode cL_law 400 = .ok (.iload_n 3, 1) := by decide +kernel
theorem dL_law_401 : decode cL_law 401 = .ok (.iconst 1, 1) := by decide +kernel
theorem dL_law_402 : decode cL_law 402 = .ok (.iadd, 1) := by decide +kernel
theorem dL_law_403 : decode cL_law 403 = .ok (.iaload, 1) := by decide +kernel
theorem dL_law_404 : decode cL_law 404 = .ok (.aload_n 0, 1) := by decide +kernel
theorem dL_law_405 : decode cL_law 405 = .ok (.iload_n 3, 1) := by decide +kernel
theorem dL_law_406 : decode cL_law 406 = .ok (.iconst 2, 1) := by decide +kernel
theorem dL_law_407 : decode cL_law 407 = .ok (.iadd, 1) := by decide +kernel
theorem dL_law_408 : decode cL_law 408 = .ok (.iaload, 1) := by decide +kernel
theorem dL_law_409 : decode cL_law 409 = .ok (.invokevirtual 57, 3) := by decide +kernel
theorem dL_law_412 : decode cL_law 412 = .ok (.aload_n 2, 1) := by decide +kernel
theorem dL_law_413 : decode cL_law 413 = .ok (.aload_n 0, 1) := by decide +kernel
theorem dL_law_414 : decode cL_law 414 = .ok (.iload_n 3, 1) := by decide +kernel
theorem dL_law_415 : decode cL_law 415 = .ok (.iconst 1, 1) := by decide +kernel
theorem dL_law_416 : decode cL_law 416 = .ok (.iadd, 1) := by decide +kernel
theorem dL_law_417 : decode cL_law 417 = .ok (.iaload, 1) := by decide +kernel
theorem dL_law_418 : decode cL_law 418 = .ok (.aload_n 0, 1) := by decide +kernel
theorem dL_law_419 : decode cL_law 419 = .ok (.iload_n 3, 1) := by decide +kernel
theorem dL_law_420 : decode cL_law 420 = .ok (.iconst 2, 1) := by decide +kernel
theorem dL_law_421 : decode cL_law 421 = .ok (.iadd, 1) := by decide +kernel
theorem dL_law_422 : decode cL_law 422 = .ok (.iaload, 1) := by decide +kernel
theorem dL_law_423 : decode cL_law 423 = .ok (.invokevirtual 60, 3) := by decide +kernel
theorem dL_law_426 : decode cL_law 426 = .ok (.if_icmp .eq 242, 3) := by decide +kernel
theorem dL_law_429 : decode cL_law 429 = .ok (.iconst 0, 1) := by decide +kernel
theorem dL_law_430 : decode cL_law 430 = .ok (.ireturn, 1) := by decide +kernel
theorem dL_law_431 : decode cL_law 431 = .ok (.aload_n 1, 1) := by decide +kernel
theorem dL_law_432 : decode cL_law 432 = .ok (.aload_n 0, 1) := by decide +kernel
theorem dL_law_433 : decode cL_law 433 = .ok (.iload_n 3, 1) := by decide +kernel
theorem dL_law_434 : decode cL_law 434 = .ok (.iconst 1, 1) := by decide +kernel
theorem dL_law_435 : decode cL_law 435 = .ok (.iadd, 1) := by decide +kernel
theorem dL_law_436 : decode cL_law 436 = .ok (.iaload, 1) := by decide +kernel
theorem dL_law_437 : decode cL_law 437 = .ok (.aload_n 0, 1) := by decide +kernel
theorem dL_law_438 : decode cL_law 438 = .ok (.iload_n 3, 1) := by decide +kernel
theorem dL_law_439 : decode cL_law 439 = .ok (.iconst 2, 1) := by decide +kernel
theorem dL_law_440 : decode cL_law 440 = .ok (.iadd, 1) := by decide +kernel
theorem dL_law_441 : decode cL_law 441 = .ok (.iaload, 1) := by decide +kernel
theorem dL_law_442 : decode cL_law 442 = .ok (.invokevirtual 61, 3) := by decide +kernel
theorem dL_law_445 : decode cL_law 445 = .ok (.aload_n 2, 1) := by decide +kernel
theorem dL_law_446 : decode cL_law 446 = .ok (.aload_n 0, 1) := by decide +kernel
theorem dL_law_447 : decode cL_law 447 = .ok (.iload_n 3, 1) := by decide +kernel
theorem dL_law_448 : decode cL_law 448 = .ok (.iconst 1, 1) := by decide +kernel
theorem dL_law_449 : decode cL_law 449 = .ok (.iadd, 1) := by decide +kernel
theorem dL_law_450 : decode cL_law 450 = .ok (.iaload, 1) := by decide +kernel
theorem dL_law_451 : decode cL_law 451 = .ok (.aload_n 0, 1) := by decide +kernel
theorem dL_law_452 : decode cL_law 452 = .ok (.iload_n 3, 1) := by decide +kernel
theorem dL_law_453 : decode cL_law 453 = .ok (.iconst 2, 1) := by decide +kernel
theorem dL_law_454 : decode cL_law 454 = .ok (.iadd, 1) := by decide +kernel
theorem dL_law_455 : decode cL_law 455 = .ok (.iaload, 1) := by decide +kernel
theorem dL_law_456 : decode cL_law 456 = .ok (.invokevirtual 64, 3) := by decide +kernel
theorem dL_law_459 : decode cL_law 459 = .ok (.if_icmp .eq 209, 3) := by decide +kernel
theorem dL_law_462 : decode cL_law 462 = .ok (.iconst 0, 1) := by decide +kernel
theorem dL_law_463 : decode cL_law 463 = .ok (.ireturn, 1) := by decide +kernel
theorem dL_law_464 : decode cL_law 464 = .ok (.aload_n 1, 1) := by decide +kernel
theorem dL_law_465 : decode cL_law 465 = .ok (.aload_n 0, 1) := by decide +kernel
theorem dL_law_466 : decode cL_law 466 = .ok (.iload_n 3, 1) := by decide +kernel
theorem dL_law_467 : decode cL_law 467 = .ok (.iconst 1, 1) := by decide +kernel
theorem dL_law_468 : decode cL_law 468 = .ok (.iadd, 1) := by decide +kernel
theorem dL_law_469 : decode cL_law 469 = .ok (.iaload, 1) := by decide +kernel
theorem dL_law_470 : decode cL_law 470 = .ok (.aload_n 0, 1) := by decide +kernel
theorem dL_law_471 : decode cL_law 471 = .ok (.iload_n 3, 1) := by decide +kernel
theorem dL_law_472 : decode cL_law 472 = .ok (.iconst 2, 1) := by decide +kernel
theorem dL_law_473 : decode cL_law 473 = .ok (.iadd, 1) := by decide +kernel
theorem dL_law_474 : decode cL_law 474 = .ok (.iaload, 1) := by decide +kernel
theorem dL_law_475 : decode cL_law 475 = .ok (.invokevirtual 65, 3) := by decide +kernel
theorem dL_law_478 : decode cL_law 478 = .ok (.aload_n 2, 1) := by decide +kernel
theorem dL_law_479 : decode cL_law 479 = .ok (.aload_n 0, 1) := by decide +kernel
theorem dL_law_480 : decode cL_law 480 = .ok (.iload_n 3, 1) := by decide +kernel
theorem dL_law_481 : decode cL_law 481 = .ok (.iconst 1, 1) := by decide +kernel
theorem dL_law_482 : decode cL_law 482 = .ok (.iadd, 1) := by decide +kernel
theorem dL_law_483 : decode cL_law 483 = .ok (.iaload, 1) := by decide +kernel
theorem dL_law_484 : decode cL_law 484 = .ok (.aload_n 0, 1) := by decide +kernel
theorem dL_law_485 : decode cL_law 485 = .ok (.iload_n 3, 1) := by decide +kernel
theorem dL_law_486 : decode cL_law 486 = .ok (.iconst 2, 1) := by decide +kernel
theorem dL_law_487 : decode cL_law 487 = .ok (.iadd, 1) := by decide +kernel
theorem dL_law_488 : decode cL_law 488 = .ok (.iaload, 1) := by decide +kernel
theorem dL_law_489 : decode cL_law 489 = .ok (.invokevirtual 68, 3) := by decide +kernel
theorem dL_law_492 : decode cL_law 492 = .ok (.if_icmp .eq 176, 3) := by decide +kernel
theorem dL_law_495 : decode cL_law 495 = .ok (.iconst 0, 1) := by decide +kernel
theorem dL_law_496 : decode cL_law 496 = .ok (.ireturn, 1) := by decide +kernel
theorem dL_law_497 : decode cL_law 497 = .ok (.aload_n 1, 1) := by decide +kernel
theorem dL_law_498 : decode cL_law 498 = .ok (.aload_n 0, 1) := by decide +kernel
theorem dL_law_499 : decode cL_law 499 = .ok (.iload_n 3, 1) := by decide +kernel
theorem dL_law_500 : decode cL_law 500 = .ok (.iconst 1, 1) := by decide +kernel
theorem dL_law_501 : decode cL_law 501 = .ok (.iadd, 1) := by decide +kernel
theorem dL_law_502 : decode cL_law 502 = .ok (.iaload, 1) := by decide +kernel
theorem dL_law_503 : decode cL_law 503 = .ok (.invokevirtual 69, 3) := by decide +kernel
theorem dL_law_506 : decode cL_law 506 = .ok (.aload_n 2, 1) := by decide +kernel
theorem dL_law_507 : decode cL_law 507 = .ok (.aload_n 0, 1) := by decide +kernel
theorem dL_law_508 : decode cL_law 508 = .ok (.iload_n 3, 1) := by decide +kernel
theorem dL_law_509 : decode cL_law 509 = .ok (.iconst 1, 1) := by decide +kernel
theorem dL_law_510 : decode cL_law 510 = .ok (.iadd, 1) := by decide +kernel
theorem dL_law_511 : decode cL_law 511 = .ok (.iaload, 1) := by decide +kernel
theorem dL_law_512 : decode cL_law 512 = .ok (.invokevirtual 72, 3) := by decide +kernel
theorem dL_law_515 : decode cL_law 515 = .ok (.if_icmp .eq 153, 3) := by decide +kernel
theorem dL_law_518 : decode cL_law 518 = .ok (.iconst 0, 1) := by decide +kernel
theorem dL_law_519 : decode cL_law 519 = .ok (.ireturn, 1) := by decide +kernel
theorem dL_law_520 : decode cL_law 520 = .ok (.aload_n 1, 1) := by decide +kernel
theorem dL_law_521 : decode cL_law 521 = .ok (.aload_n 0, 1) := by decide +kernel
theorem dL_law_522 : decode cL_law 522 = .ok (.iload_n 3, 1) := by decide +kernel
theorem dL_law_523 : decode cL_law 523 = .ok (.iconst 1, 1) := by decide +kernel
theorem dL_law_524 : decode cL_law 524 = .ok (.iadd, 1) := by decide +kernel
theorem dL_law_525 : decode cL_law 525 = .ok (.iaload, 1) := by decide +kernel
theorem dL_law_526 : decode cL_law 526 = .ok (.invokevirtual 73, 3) := by decide +kernel
theorem dL_law_529 : decode cL_law 529 = .ok (.aload_n 2, 1) := by decide +kernel
theorem dL_law_530 : decode cL_law 530 = .ok (.aload_n 0, 1) := by decide +kernel
theorem dL_law_531 : decode cL_law 531 = .ok (.iload_n 3, 1) := by decide +kernel
theorem dL_law_532 : decode cL_law 532 = .ok (.iconst 1, 1) := by decide +kernel
theorem dL_law_533 : decode cL_law 533 = .ok (.iadd, 1) := by decide +kernel
theorem dL_law_534 : decode cL_law 534 = .ok (.iaload, 1) := by decide +kernel
theorem dL_law_535 : decode cL_law 535 = .ok (.invokevirtual 76, 3) := by decide +kernel
theorem dL_law_538 : decode cL_law 538 = .ok (.if_icmp .eq 130, 3) := by decide +kernel
theorem dL_law_541 : decode cL_law 541 = .ok (.iconst 0, 1) := by decide +kernel
theorem dL_law_542 : decode cL_law 542 = .ok (.ireturn, 1) := by decide +kernel
theorem dL_law_543 : decode cL_law 543 = .ok (.aload_n 1, 1) := by decide +kernel
theorem dL_law_544 : decode cL_law 544 = .ok (.invokevirtual 77, 3) := by decide +kernel
theorem dL_law_547 : decode cL_law 547 = .ok (.aload_n 2, 1) := by decide +kernel
theorem dL_law_548 : decode cL_law 548 = .ok (.invokevirtual 80, 3) := by decide +kernel
theorem dL_law_551 : decode cL_law 551 = .ok (.if_icmp .eq 117, 3) := by decide +kernel
theorem dL_law_554 : decode cL_law 554 = .ok (.iconst 0, 1) := by decide +kernel
theorem dL_law_555 : decode cL_law 555 = .ok (.ireturn, 1) := by decide +kernel
theorem dL_law_556 : decode cL_law 556 = .ok (.aload_n 1, 1) := by decide +kernel
theorem dL_law_557 : decode cL_law 557 = .ok (.aload_n 0, 1) := by decide +kernel
theorem dL_law_558 : decode cL_law 558 = .ok (.iload_n 3, 1) := by decide +kernel
theorem dL_law_559 : decode cL_law 559 = .ok (.iconst 1, 1) := by decide +kernel
theorem dL_law_560 : decode cL_law 560 = .ok (.iadd, 1) := by decide +kernel
theorem dL_law_561 : decode cL_law 561 = .ok (.iaload, 1) := by decide +kernel
theorem dL_law_562 : decode cL_law 562 = .ok (.aload_n 0, 1) := by decide +kernel
theorem dL_law_563 : decode cL_law 563 = .ok (.iload_n 3, 1) := by decide +kernel
theorem dL_law_564 : decode cL_law 564 = .ok (.iconst 2, 1) := by decide +kernel
theorem dL_law_565 : decode cL_law 565 = .ok (.iadd, 1) := by decide +kernel
theorem dL_law_566 : decode cL_law 566 = .ok (.iaload, 1) := by decide +kernel
theorem dL_law_567 : decode cL_law 567 = .ok (.invokevirtual 81, 3) := by decide +kernel
theorem dL_law_570 : decode cL_law 570 = .ok (.aload_n 2, 1) := by decide +kernel
theorem dL_law_571 : decode cL_law 571 = .ok (.aload_n 0, 1) := by decide +kernel
theorem dL_law_572 : decode cL_law 572 = .ok (.iload_n 3, 1) := by decide +kernel
theorem dL_law_573 : decode cL_law 573 = .ok (.iconst 1, 1) := by decide +kernel
theorem dL_law_574 : decode cL_law 574 = .ok (.iadd, 1) := by decide +kernel
theorem dL_law_575 : decode cL_law 575 = .ok (.iaload, 1) := by decide +kernel
theorem dL_law_576 : decode cL_law 576 = .ok (.aload_n 0, 1) := by decide +kernel
theorem dL_law_577 : decode cL_law 577 = .ok (.iload_n 3, 1) := by decide +kernel
theorem dL_law_578 : decode cL_law 578 = .ok (.iconst 2, 1) := by decide +kernel
theorem dL_law_579 : decode cL_law 579 = .ok (.iadd, 1) := by decide +kernel
theorem dL_law_580 : decode cL_law 580 = .ok (.iaload, 1) := by decide +kernel
theorem dL_law_581 : decode cL_law 581 = .ok (.invokevirtual 84, 3) := by decide +kernel
theorem dL_law_584 : decode cL_law 584 = .ok (.if_icmp .eq 84, 3) := by decide +kernel
theorem dL_law_587 : decode cL_law 587 = .ok (.iconst 0, 1) := by decide +kernel
theorem dL_law_588 : decode cL_law 588 = .ok (.ireturn, 1) := by decide +kernel
theorem dL_law_589 : decode cL_law 589 = .ok (.aload_n 1, 1) := by decide +kernel
theorem dL_law_590 : decode cL_law 590 = .ok (.aload_n 0, 1) := by decide +kernel
theorem dL_law_591 : decode cL_law 591 = .ok (.iload_n 3, 1) := by decide +kernel
theorem dL_law_592 : decode cL_law 592 = .ok (.iconst 1, 1) := by decide +kernel
theorem dL_law_593 : decode cL_law 593 = .ok (.iadd, 1) := by decide +kernel
theorem dL_law_594 : decode cL_law 594 = .ok (.iaload, 1) := by decide +kernel
theorem dL_law_595 : decode cL_law 595 = .ok (.invokevirtual 85, 3) := by decide +kernel
theorem dL_law_598 : decode cL_law 598 = .ok (.aload_n 2, 1) := by decide +kernel
theorem dL_law_599 : decode cL_law 599 = .ok (.aload_n 0, 1) := by decide +kernel
theorem dL_law_600 : decode cL_law 600 = .ok (.iload_n 3, 1) := by decide +kernel
theorem dL_law_601 : decode cL_law 601 = .ok (.iconst 1, 1) := by decide +kernel
theorem dL_law_602 : decode cL_law 602 = .ok (.iadd, 1) := by decide +kernel
theorem dL_law_603 : decode cL_law 603 = .ok (.iaload, 1) := by decide +kernel
theorem dL_law_604 : decode cL_law 604 = .ok (.invokevirtual 88, 3) := by decide +kernel
theorem dL_law_607 : decode cL_law 607 = .ok (.if_icmp .eq 61, 3) := by decide +kernel
theorem dL_law_610 : decode cL_law 610 = .ok (.iconst 0, 1) := by decide +kernel
theorem dL_law_611 : decode cL_law 611 = .ok (.ireturn, 1) := by decide +kernel
theorem dL_law_612 : decode cL_law 612 = .ok (.aload_n 1, 1) := by decide +kernel
theorem dL_law_613 : decode cL_law 613 = .ok (.aload_n 0, 1) := by decide +kernel
theorem dL_law_614 : decode cL_law 614 = .ok (.iload_n 3, 1) := by decide +kernel
theorem dL_law_615 : decode cL_law 615 = .ok (.iconst 1, 1) := by decide +kernel
theorem dL_law_616 : decode cL_law 616 = .ok (.iadd, 1) := by decide +kernel
theorem dL_law_617 : decode cL_law 617 = .ok (.iaload, 1) := by decide +kernel
theorem dL_law_618 : decode cL_law 618 = .ok (.aload_n 0, 1) := by decide +kernel
theorem dL_law_619 : decode cL_law 619 = .ok (.iload_n 3, 1) := by decide +kernel
theorem dL_law_620 : decode cL_law 620 = .ok (.iconst 2, 1) := by decide +kernel
theorem dL_law_621 : decode cL_law 621 = .ok (.iadd, 1) := by decide +kernel
theorem dL_law_622 : decode cL_law 622 = .ok (.iaload, 1) := by decide +kernel
theorem dL_law_623 : decode cL_law 623 = .ok (.invokevirtual 89, 3) := by decide +kernel
theorem dL_law_626 : decode cL_law 626 = .ok (.aload_n 2, 1) := by decide +kernel
theorem dL_law_627 : decode cL_law 627 = .ok (.aload_n 0, 1) := by decide +kernel
theorem dL_law_628 : decode cL_law 628 = .ok (.iload_n 3, 1) := by decide +kernel
theorem dL_law_629 : decode cL_law 629 = .ok (.iconst 1, 1) := by decide +kernel
theorem dL_law_630 : decode cL_law 630 = .ok (.iadd, 1) := by decide +kernel
theorem dL_law_631 : decode cL_law 631 = .ok (.iaload, 1) := by decide +kernel
theorem dL_law_632 : decode cL_law 632 = .ok (.aload_n 0, 1) := by decide +kernel
theorem dL_law_633 : decode cL_law 633 = .ok (.iload_n 3, 1) := by decide +kernel
theorem dL_law_634 : decode cL_law 634 = .ok (.iconst 2, 1) := by decide +kernel
theorem dL_law_635 : decode cL_law 635 = .ok (.iadd, 1) := by decide +kernel
theorem dL_law_636 : decode cL_law 636 = .ok (.iaload, 1) := by decide +kernel
theorem dL_law_637 : decode cL_law 637 = .ok (.invokevirtual 92, 3) := by decide +kernel
theorem dL_law_640 : decode cL_law 640 = .ok (.if_icmp .eq 28, 3) := by decide +kernel
theorem dL_law_643 : decode cL_law 643 = .ok (.iconst 0, 1) := by decide +kernel
theorem dL_law_644 : decode cL_law 644 = .ok (.ireturn, 1) := by decide +kernel
theorem dL_law_645 : decode cL_law 645 = .ok (.aload_n 1, 1) := by decide +kernel
theorem dL_law_646 : decode cL_law 646 = .ok (.aload_n 0, 1) := by decide +kernel
theorem dL_law_647 : decode cL_law 647 = .ok (.iload_n 3, 1) := by decide +kernel
theorem dL_law_648 : decode cL_law 648 = .ok (.iconst 1, 1) := by decide +kernel
theorem dL_law_649 : decode cL_law 649 = .ok (.iadd, 1) := by decide +kernel
theorem dL_law_650 : decode cL_law 650 = .ok (.iaload, 1) := by decide +kernel
theorem dL_law_651 : decode cL_law 651 = .ok (.invokevirtual 93, 3) := by decide +kernel
theorem dL_law_654 : decode cL_law 654 = .ok (.aload_n 2, 1) := by decide +kernel
theorem dL_law_655 : decode cL_law 655 = .ok (.aload_n 0, 1) := by decide +kernel
theorem dL_law_656 : decode cL_law 656 = .ok (.iload_n 3, 1) := by decide +kernel
theorem dL_law_657 : decode cL_law 657 = .ok (.iconst 1, 1) := by decide +kernel
theorem dL_law_658 : decode cL_law 658 = .ok (.iadd, 1) := by decide +kernel
theorem dL_law_659 : decode cL_law 659 = .ok (.iaload, 1) := by decide +kernel
theorem dL_law_660 : decode cL_law 660 = .ok (.invokevirtual 96, 3) := by decide +kernel
theorem dL_law_663 : decode cL_law 663 = .ok (.if_icmp .eq 5, 3) := by decide +kernel
theorem dL_law_666 : decode cL_law 666 = .ok (.iconst 0, 1) := by decide +kernel
theorem dL_law_667 : decode cL_law 667 = .ok (.ireturn, 1) := by decide +kernel
theorem dL_law_668 : decode cL_law 668 = .ok (.iinc 3 5, 3) := by decide +kernel
theorem dL_law_671 : decode cL_law 671 = .ok (.goto (-653), 3) := by decide +kernel
theorem dL_law_674 : decode cL_law 674 = .ok (.iconst 1, 1) := by decide +kernel
theorem dL_law_675 : decode cL_law 675 = .ok (.ireturn, 1) := by decide +kernel
end
section
/-! THE LIGHT MACHINE: a judgement over a store of numbers (cell, place) and a shape of cells, that hides the machine; one row an instruction. -/
abbrev lt_S : Type := Nat → Nat → Int32
abbrev lt_C : Type := (Nat × Nat) ⊕ (List (Option Nat) ⊕ (Nat × List (Option Value)))
abbrev lt_H : Type := List lt_C
abbrev lt_M : Type := MethodName × ByteArray × Nat × Option FieldType
abbrev lt_Q : Type := Option Int32 → lt_H → lt_S → Prop
def lt_tr (ad : Nat → Nat) (v : Value) : Value := match v with
  | .ref a => .ref (ad a)
  | v => v
def lt_sv (N : Nat) (v : Value) : Prop := match v with
  | .int _ => True
  | .null => True
  | .ref a => a < N
  | _ => False
theorem lt_sv.mono {N N' : Nat} {v : Value} (h : lt_sv N v) (hN : N ≤ N') : lt_sv N' v := by
  cases v <;> first | exact h | exact Nat.lt_of_lt_of_le h hN
theorem lt_sv.cat {N : Nat} {v : Value} (h : lt_sv N v) (ad : Nat → Nat) : (lt_tr ad v).category = 1 := by
  cases v <;> first | rfl | exact h.elim
theorem lt_sv.same {N : Nat} {v : Value} {ad ad' : Nat → Nat} (h : lt_sv N v) (he : ∀ a, a < N → ad' a = ad a) : lt_tr ad' v = lt_tr ad v := by
  cases v <;> first | rfl | exact congrArg Value.ref (he _ h)
def lt_sok (N : Nat) : List Value → Prop
  | [] => True
  | v :: r => lt_sv N v ∧ lt_sok N r
theorem lt_sok.mono {N N' : Nat} (hN : N ≤ N') : ∀ {st : List Value}, lt_sok N st → lt_sok N' st
  | [], _ => trivial
  | _ :: _, h => ⟨h.1.mono hN, h.2.mono hN⟩
theorem lt_sok.same {N : Nat} {ad ad' : Nat → Nat} (he : ∀ a, a < N → ad' a = ad a) : ∀ {st : List Value}, lt_sok N st → st.map (lt_tr ad') = st.map (lt_tr ad)
  | [], _ => rfl
  | _ :: _, h => by rw [List.map_cons, List.map_cons, h.1.same he, h.2.same he]
theorem lt_sok.cat {N : Nat} (ad : Nat → Nat) : ∀ {st : List Value}, lt_sok N st → ((st.map (lt_tr ad)).map fun v => v.category).sum = st.length
  | [], _ => rfl
  | _ :: _, h => by
    rw [List.map_cons, List.map_cons, List.sum_cons, h.1.cat ad, h.2.cat ad, List.length_cons]
    omega
theorem lt_sok.app {N : Nat} : ∀ {a b : List Value}, lt_sok N (a ++ b) ↔ lt_sok N a ∧ lt_sok N b
  | [], b => ⟨fun h => ⟨trivial, h⟩, fun h => h.2⟩
  | v :: a, b => ⟨fun h => ⟨⟨h.1, (lt_sok.app.mp h.2).1⟩, (lt_sok.app.mp h.2).2⟩, fun h => ⟨h.1.1, lt_sok.app.mpr ⟨h.1.2, h.2⟩⟩⟩
theorem lt_sok.rev {N : Nat} : ∀ {a : List Value}, lt_sok N a.reverse → lt_sok N a
  | [], _ => trivial
  | v :: a, h => by
    rw [List.reverse_cons] at h
    have h2 := lt_sok.app.mp h
    exact ⟨h2.2.1, lt_sok.rev h2.1⟩
/-- an object's fields: constants of the shape, numbers of the store -/
def lt_fs (ad : Nat → Nat) (f : Nat → Int32) : Nat → List (Option Value) → List Value
  | _, [] => []
  | k, some v :: r => lt_tr ad v :: lt_fs ad f (k + 1) r
  | k, none :: r => .int (f k) :: lt_fs ad f (k + 1) r
theorem lt_fs_get (ad : Nat → Nat) (f : Nat → Int32) : ∀ (fs : List (Option Value)) (k j : Nat), (lt_fs ad f k fs)[j]? = (fs[j]?).map (fun o => match o with | some v => lt_tr ad v | none => .int (f (k + j)))
  | [], k, j => by simp [lt_fs]
  | some v :: r, k, 0 => by simp [lt_fs]
  | none :: r, k, 0 => by simp [lt_fs]
  | some v :: r, k, j + 1 => by
    simp only [lt_fs, List.getElem?_cons_succ]
    rw [lt_fs_get ad f r (k + 1) j]
    congr 1; funext o; cases o <;> simp [Nat.add_assoc, Nat.add_comm 1 j]
  | none :: r, k, j + 1 => by
    simp only [lt_fs, List.getElem?_cons_succ]
    rw [lt_fs_get ad f r (k + 1) j]
    congr 1; funext o; cases o <;> simp [Nat.add_assoc, Nat.add_comm 1 j]
theorem lt_fs_len (ad : Nat → Nat) (f : Nat → Int32) : ∀ (fs : List (Option Value)) (k : Nat), (lt_fs ad f k fs).length = fs.length
  | [], k => rfl
  | some v :: r, k => by simp [lt_fs, lt_fs_len ad f r]
  | none :: r, k => by simp [lt_fs, lt_fs_len ad f r]
theorem lt_fs_out (ad : Nat → Nat) (f : Nat → Int32) (x : Int32) : ∀ (fs : List (Option Value)) (k i : Nat), i < k → lt_fs ad (upd f i x) k fs = lt_fs ad f k fs
  | [], k, i, _ => rfl
  | some v :: r, k, i, h => by simp only [lt_fs]; rw [lt_fs_out ad f x r (k + 1) i (by omega)]
  | none :: r, k, i, h => by
    simp only [lt_fs]
    rw [lt_fs_out ad f x r (k + 1) i (by omega), show upd f i x k = f k from if_neg (by omega)]
theorem lt_fs_set (ad : Nat → Nat) (f : Nat → Int32) (x : Int32) : ∀ (fs : List (Option Value)) (k j : Nat), fs[j]? = some none → (lt_fs ad f k fs).set j (.int x) = lt_fs ad (upd f (k + j) x) k fs
  | [], k, j, h => by simp at h
  | some v :: r, k, 0, h => by simp at h
  | none :: r, k, 0, h => by
    simp only [lt_fs, List.set_cons_zero, Nat.add_zero]
    rw [lt_fs_out ad f x r (k + 1) k (by omega), show upd f k x k = x from if_pos rfl]
  | some v :: r, k, j + 1, h => by
    simp only [lt_fs, List.set_cons_succ]
    rw [lt_fs_set ad f x r (k + 1) j (by simpa using h), show k + 1 + j = k + (j + 1) by omega]
  | none :: r, k, j + 1, h => by
    simp only [lt_fs, List.set_cons_succ]
    rw [lt_fs_set ad f x r (k + 1) j (by simpa using h), show k + 1 + j = k + (j + 1) by omega, show upd f (k + (j + 1)) x k = f k from if_neg (by omega)]
theorem lt_fs_setr (ad : Nat → Nat) (f : Nat → Int32) (v : Value) : ∀ (fs : List (Option Value)) (k j : Nat), (lt_fs ad f k fs).set j (lt_tr ad v) = lt_fs ad f k (fs.set j (some v))
  | [], k, j => by simp [lt_fs]
  | some w :: r, k, 0 => by simp [lt_fs]
  | none :: r, k, 0 => by simp [lt_fs]
  | some w :: r, k, j + 1 => by simp only [lt_fs, List.set_cons_succ]; rw [lt_fs_setr ad f v r (k + 1) j]
  | none :: r, k, j + 1 => by simp only [lt_fs, List.set_cons_succ]; rw [lt_fs_setr ad f v r (k + 1) j]
def lt_fok (N : Nat) (fs : List (Option Value)) : Prop := ∀ (k : Nat) (v : Value), fs[k]? = some (some v) → lt_sv N v
theorem lt_fs_same {N : Nat} {ad ad' : Nat → Nat} (he : ∀ a, a < N → ad' a = ad a) (f : Nat → Int32) : ∀ (fs : List (Option Value)) (k : Nat), lt_fok N fs → lt_fs ad' f k fs = lt_fs ad f k fs
  | [], k, _ => rfl
  | some v :: r, k, h => by
    simp only [lt_fs]
    rw [(h 0 v rfl).same he, lt_fs_same he f r (k + 1) (fun j w hj => h (j + 1) w (by simpa using hj))]
  | none :: r, k, h => by
    simp only [lt_fs]
    rw [lt_fs_same he f r (k + 1) (fun j w hj => h (j + 1) w (by simpa using hj))]
/-- a cell out of its shape and the store's row -/
def lt_cell (dA : Nat → ClassId) (ad : Nat → Nat) (c : lt_C) (f : Nat → Int32) : va_E := match c with
  | .inl q => .inl (dA q.1, q.2, .inl f)
  | .inr (.inl rs) => .inl (dA 3, rs.length, .inr (.inr (.inr (.inr (fun k => (rs.getD k none).map ad)))))
  | .inr (.inr q) => .inr (q.1, lt_fs ad f 0 q.2)
def lt_cok (N : Nat) (c : lt_C) : Prop := match c with
  | .inl _ => True
  | .inr (.inl rs) => ∀ (k a : Nat), rs.getD k none = some a → a < N
  | .inr (.inr q) => lt_fok N q.2
def lt_hok (N : Nat) (sh : lt_H) : Prop := ∀ (k : Nat) (c : lt_C), sh[k]? = some c → lt_cok N c
theorem lt_cok.mono {N N' : Nat} {c : lt_C} (hN : N ≤ N') (h : lt_cok N c) : lt_cok N' c := by
  rcases c with q | rs | q
  · exact trivial
  · exact fun k a e => Nat.lt_of_lt_of_le (h k a e) hN
  · exact fun k v e => (h k v e).mono hN
theorem lt_cell_same {N : Nat} {ad ad' : Nat → Nat} (he : ∀ a, a < N → ad' a = ad a) (dA : Nat → ClassId) (c : lt_C) (f : Nat → Int32) (h : lt_cok N c) : lt_cell dA ad' c f = lt_cell dA ad c f := by
  rcases c with q | rs | q
  · rfl
  · show Sum.inl (dA 3, rs.length, Sum.inr (Sum.inr (Sum.inr (Sum.inr _)))) = Sum.inl (dA 3, rs.length, Sum.inr (Sum.inr (Sum.inr (Sum.inr _))))
    congr 7
    funext k
    cases e : rs.getD k none with
    | none => rfl
    | some a => exact congrArg some (he a (h k a e))
  · show Sum.inr (q.1, lt_fs ad' f 0 q.2) = Sum.inr (q.1, lt_fs ad f 0 q.2)
    rw [lt_fs_same he f q.2 0 h]
def lt_w (dA : Nat → ClassId) (ad : Nat → Nat) (σ : lt_S) : Nat → lt_H → va_W
  | _, [] => []
  | k, c :: r => (ad k, lt_cell dA ad c (σ k)) :: lt_w dA ad σ (k + 1) r
theorem lt_w_get (dA : Nat → ClassId) (ad : Nat → Nat) (σ : lt_S) : ∀ (sh : lt_H) (k i : Nat), (lt_w dA ad σ k sh)[i]? = (sh[i]?).map (fun c => (ad (k + i), lt_cell dA ad c (σ (k + i))))
  | [], k, i => by simp [lt_w]
  | c :: r, k, 0 => by simp [lt_w]
  | c :: r, k, i + 1 => by
    simp only [lt_w, List.getElem?_cons_succ]
    rw [lt_w_get dA ad σ r (k + 1) i, show k + 1 + i = k + (i + 1) by omega]
theorem lt_w_len (dA : Nat → ClassId) (ad : Nat → Nat) (σ : lt_S) : ∀ (sh : lt_H) (k : Nat), (lt_w dA ad σ k sh).length = sh.length
  | [], k => rfl
  | c :: r, k => by simp [lt_w, lt_w_len dA ad σ r]
theorem lt_w_ext {dA : Nat → ClassId} {ad : Nat → Nat} {σ σ' : lt_S} : ∀ (sh : lt_H) (k : Nat), (∀ b, k ≤ b → b < k + sh.length → σ b = σ' b) → lt_w dA ad σ k sh = lt_w dA ad σ' k sh
  | [], k, _ => rfl
  | c :: r, k, h => by
    simp only [lt_w]
    rw [h k (Nat.le_refl _) (by simp), lt_w_ext r (k + 1) (fun b h1 h2 => h b (by omega) (by simp; omega))]
theorem lt_w_set {dA : Nat → ClassId} {ad : Nat → Nat} {σ : lt_S} (c' : lt_C) (f : Nat → Int32) : ∀ (sh : lt_H) (k i : Nat), (lt_w dA ad σ k sh).set i (ad (k + i), lt_cell dA ad c' f) = lt_w dA ad (fun b => if b = k + i then f else σ b) k (sh.set i c')
  | [], k, i => by simp [lt_w]
  | c :: r, k, 0 => by
    simp only [lt_w, List.set_cons_zero, Nat.add_zero, if_pos]
    congr 1
    exact lt_w_ext r (k + 1) (fun b h1 h2 => (if_neg (by omega)).symm)
  | c :: r, k, i + 1 => by
    simp only [lt_w, List.set_cons_succ]
    rw [show k + (i + 1) = k + 1 + i by omega, lt_w_set c' f r (k + 1) i, if_neg (by omega)]
theorem lt_w_push {dA : Nat → ClassId} {ad : Nat → Nat} {σ : lt_S} (c : lt_C) : ∀ (sh : lt_H) (k : Nat), lt_w dA ad σ k (sh ++ [c]) = lt_w dA ad σ k sh ++ [(ad (k + sh.length), lt_cell dA ad c (σ (k + sh.length)))]
  | [], k => by simp [lt_w]
  | a :: r, k => by
    simp only [List.cons_append, lt_w]
    rw [lt_w_push c r (k + 1), List.length_cons, show k + 1 + r.length = k + (r.length + 1) by omega]
theorem lt_w_same {N : Nat} {ad ad' : Nat → Nat} (he : ∀ a, a < N → ad' a = ad a) {dA : Nat → ClassId} {σ : lt_S} : ∀ (sh : lt_H) (k : Nat), k + sh.length ≤ N → lt_hok N sh → lt_w dA ad' σ k sh = lt_w dA ad σ k sh
  | [], k, _, _ => rfl
  | c :: r, k, hk, h => by
    simp only [lt_w]
    simp only [List.length_cons] at hk
    rw [he k (by omega), lt_cell_same he dA c (σ k) (h 0 c rfl), lt_w_same he r (k + 1) (by omega) (fun j x hj => h (j + 1) x (by simpa using hj))]
/-- the store with one number changed -/
def lt_up (σ : lt_S) (a k : Nat) (x : Int32) : lt_S := fun b => if b = a then upd (σ a) k x else σ b
/-- the store with one row changed -/
def lt_ur (σ : lt_S) (a : Nat) (f : Nat → Int32) : lt_S := fun b => if b = a then f else σ b
def lt_tys (dA : Nat → ClassId) : List (ClassId × FieldType) := [(dA 0, .int), (dA 1, .char), (dA 2, .boolean), (dA 3, .object RX2)]
def lt_A (ad : Nat → Nat) (n sz : Nat) : Nat → Prop := fun q => (∃ a, a < n ∧ ad (10 + a) = q) ∨ sz ≤ q
end
section
/-! the judgement: what the machine's context is, and what it means that the machine goes on from a place -/
def lt_t0 : String := "yard 2,3;path 0,0,1;path 0,1,1,2;path 0,2,1,2,3;path 1,0,4,5;path 1,1,4;path 1,2,3;come 0,1,10,20,1;come 1,0,12,18,9;come 0,0,15,25,1;come 1,1,22,30,0;span 1;"
def lt_t1 : String := "yard path come pair span "
def lt_byt : List (List Int32) := [lt_t0.toList.map (fun c => Int32.ofNat c.toNat), lt_t1.toList.map (fun c => Int32.ofNat c.toNat)]
def lt_len : List Nat := [162, 25]
def lt_tb : List Cond := lw_tbl.filter goodWord
/-- words that are carried by hand: the nest mates' constructors, the class of rows of Plan -/
def lt_N (U : State) : Prop := va_Nw (.methodLinkNest RX7 9 yX5_init RX7) U ∧ va_Nw (.methodLinkNest RX7 18 yX6_init RX7) U ∧ va_Nw (.methodLinkNest RX7 25 yX2_init RX7) U ∧ va_Nw (.methodLinkNest RX1 24 yX2_init RX7) U ∧ va_AO RX2 U
/-- what lies outside the world: 0 the script, 1 and 2 the texts, 3 and 4 their bytes, 5 a formatter of the JDK's (or null) -/
def lt_X (ad : Nat → Nat) (xl : Nat) (xs : Nat → Int32) (A : Nat → Prop) (U : State) (H : Heap) : Prop :=
  va_X (ad 0) xl xs U H ∧ ad 0 < H.size ∧ ¬ A (ad 0) ∧ vk_S 2 lt_len lt_byt (fun i => ad (1 + i)) (fun i => ad (3 + i)) A U H ∧ vk_R RX7 67 lt_t0 (ad 1) U ∧ vk_R RX3 55 lt_t1 (ad 2) U ∧ va_Z RJ0 "COMPACT_STRINGS" "Z" (.int 1) A U H ∧
  (va_Z RJ3 "SIOOBE_FORMATTER" "Ljava/util/function/BiFunction;" .null A U H ∨ va_Z RJ3 "SIOOBE_FORMATTER" "Ljava/util/function/BiFunction;" (.ref (ad 5)) A U H) ∧ lt_N U
def lt_Cx (M : lt_M) (d mc ms : Nat) (R : Room) (p : Program) (s : State) (m : MethodId) (args : Array Value) (meth : Method) (c : Code) (D : va_G) (dA : Nat → ClassId) (A : Nat → Prop) (ad0 : Nat → Nat) (xl : Nat) (xs : Nat → Int32) : Prop :=
  CallFix p m c M.2.1 M.2.2.1 s args lt_tb M.1.cls ∧ meth.sig.returnType = M.2.2.2 ∧ meth.locks = false ∧ (M.1.name = "<init>" → meth.name = "<init>") ∧ va_K D vwCl (lt_tys dA) s ∧ (∀ q, s.heap.size ≤ q → A q) ∧ (d ≤ R.frames ∧ 40 * d ≤ R.locals ∧ mc ≤ R.cells ∧ ms ≤ R.slots) ∧ lt_X ad0 xl xs A s s.heap
def lt_Wd (D : va_G) (dA : Nat → ClassId) (ad0 ad : Nat → Nat) (A : Nat → Prop) (N0 : Nat) (sh : lt_H) (σ : lt_S) (s : State) (H : Heap) (locs : List Loc) : Prop :=
  (∀ a, a < 10 + N0 → ad a = ad0 a) ∧ N0 ≤ sh.length ∧ lt_hok (10 + sh.length) sh ∧ va_P D vwCl (lt_w dA ad σ 10 sh) H ∧ va_D A (lt_w dA ad σ 10 sh) ∧ va_S A s.heap H locs
def lt_lv (ad : Nat → Nat) (ls : Array Slot) (nL N : Nat) (L : List (Option Value)) : Prop :=
  (∃ lv, lv_has ls nL lv ∧ ∀ (i : Nat) (v : Value), L[i]? = some (some v) → (i, lt_tr ad v) ∈ lv) ∧ (∀ (i : Nat) (v : Value), L[i]? = some (some v) → lt_sv N v)
abbrev lt_L : Type := Launch × Nat × (Nat → Int32)
def lt_ret (l : lt_L) (mc ms : Nat) (M : lt_M) (Q : lt_Q) (p : Program) (e : Env) (R : Room) (s : State) (m : MethodId) (args : Array Value) (below : List Frame) (meth : Method) (c : Code) (Z : State → Prop) (D : va_G) (dA : Nat → ClassId) (ad0 : Nat → Nat) (A : Nat → Prop) (N0 : Nat) : Prop :=
  ∀ (r : Option Int32) (sh' : lt_H) (σ' : lt_S) (ad' : Nat → Nat) (H' : Heap) (locs' : List Loc) (pc' : Nat) (ls' : Array Slot), Q r sh' σ' → lt_Wd D dA ad0 ad' A N0 sh' σ' s H' locs' →
    (match r with
      | none => M.2.2.2 = none ∧ decode M.2.1 pc' = .ok (.return_, 1)
      | some x => ∃ ty, M.2.2.2 = some ty ∧ narrow ty (.int x) = .int x ∧ decode M.2.1 pc' = .ok (.ireturn, 1)) →
    W p l.1 e R s m args below meth c H' locs' mc ms Z (F0 m pc' ls' (r.toList.map Value.int))
def lt_G (l : lt_L) (d mc ms : Nat) (M : lt_M) (ck cn : Nat) (sh : lt_H) (σ : lt_S) (pc : Nat) (L : List (Option Value)) (st : List Value) (Q : lt_Q) : Prop :=
  ∀ (p : Program) (e : Env) (R : Room) (s : State) (m : MethodId) (args : Array Value) (below : List Frame) (meth : Method) (c : Code) (H : Heap) (locs : List Loc) (Z : State → Prop) (D : va_G) (dA : Nat → ClassId) (ad0 ad : Nat → Nat) (A : Nat → Prop) (N0 : Nat) (ls : Array Slot),
    lt_Cx M d mc ms R p s m args meth c D dA A ad0 l.2.1 l.2.2 → lt_Wd D dA ad0 ad A N0 sh σ s H locs → lt_lv ad ls M.2.2.1 (10 + sh.length) L → lt_sok (10 + sh.length) st → lt_ret l mc ms M Q p e R s m args below meth c Z D dA ad0 A N0 →
    W p l.1 e R s m args below meth c H locs ck cn Z (F0 m pc ls (st.map (lt_tr ad)))
/-! a method's contract in these words -/
def lt_ws (M : lt_M) : List Cond := Cond.code M.1 M.2.1 M.2.2.1 M.2.2.2 :: lt_tb
def lt_rm (d mc ms : Nat) : Jvm.Room := { frames := d, cells := mc, slots := ms, locals := 40 * d }
def lt_pre (D : va_G) (dA : Nat → ClassId) (ad : Nat → Nat) (xl : Nat) (xs : Nat → Int32) (sz : Nat) (sh : lt_H) (σ : lt_S) (U : State) : Prop :=
  U.heap.size = sz ∧ va_P D vwCl (lt_w dA ad σ 10 sh) U.heap ∧ va_K D vwCl (lt_tys dA) U ∧ va_D (fun _ => True) (lt_w dA ad σ 10 sh) ∧ lt_hok (10 + sh.length) sh ∧ lt_X ad xl xs (lt_A ad sh.length sz) U U.heap
def lt_post (Q : lt_Q) (D : va_G) (dA : Nat → ClassId) (ad : Nat → Nat) (n : Nat) (A : Nat → Prop) : Array Value → State → Outcome → State → Prop := fun _ st o t =>
  (∃ (r : Option Int32) (sh' : lt_H) (σ' : lt_S) (ad' : Nat → Nat), Q r sh' σ' ∧ o = .returned (r.map Value.int) ∧ (∀ a, a < 10 + n → ad' a = ad a) ∧ n ≤ sh'.length ∧ lt_hok (10 + sh'.length) sh' ∧ va_P D vwCl (lt_w dA ad' σ' 10 sh') t.heap ∧ va_D A (lt_w dA ad' σ' 10 sh')) ∧ va_F A st t
def lt_R (l : lt_L) (d mc ms : Nat) (M : lt_M) (sh : lt_H) (σ : lt_S) (as : List Value) (Q : lt_Q) : Prop :=
  ∀ (D : va_G) (dA : Nat → ClassId) (ad : Nat → Nat) (sz : Nat), lt_sok (10 + sh.length) as →
    Met l.1 M.1 (lt_ws M) (lt_rm d mc ms) (va_Pc (as.map (lt_tr ad)) (lt_pre D dA ad l.2.1 l.2.2 sz sh σ)) (lt_post Q D dA ad sh.length (lt_A ad sh.length sz)) mc ms (lt_A ad sh.length sz)
theorem lt_entry (ad : Nat → Nat) {N : Nat} : ∀ (as : List Value) (i j : Nat) (v : Value), lt_sok N as → as[j]? = some v → (i + j, lt_tr ad v) ∈ lv_args i (as.map (lt_tr ad))
  | [], i, j, v, _, h => by simp at h
  | a :: r, i, 0, v, hs, h => by
    simp only [List.getElem?_cons_zero, Option.some.injEq] at h
    subst h
    simp [lv_args]
  | a :: r, i, j + 1, v, hs, h => by
    simp only [List.getElem?_cons_succ] at h
    have := lt_entry ad r (i + 1) j v hs.2 h
    simp only [List.map_cons, lv_args, List.mem_cons]
    right
    rw [if_neg (by rw [hs.1.cat ad]; decide), show i + (j + 1) = i + 1 + j by omega]
    exact this
theorem lt_sl {N : Nat} (ad : Nat → Nat) : ∀ (as : List Value), lt_sok N as → (lg_sl (as.map (lt_tr ad))).length = as.length
  | [], _ => rfl
  | a :: r, h => by
    have := lt_sl ad r h.2
    unfold lg_sl at this ⊢
    rw [List.map_cons, List.flatMap_cons, if_neg (by rw [h.1.cat ad]; decide), List.length_append, this]
    simp
    omega
theorem lt_D_self {ad : Nat → Nat} {A : Nat → Prop} {dA : Nat → ClassId} {σ : lt_S} {sh : lt_H} {sz : Nat} (h : va_D A (lt_w dA ad σ 10 sh)) : va_D (lt_A ad sh.length sz) (lt_w dA ad σ 10 sh) := by
  refine ⟨h.1, fun k q hk => Or.inl ?_⟩
  rw [lt_w_get] at hk
  cases e : sh[k]? with
  | none => rw [e] at hk; cases hk
  | some c =>
    rw [e] at hk
    cases hk
    exact ⟨k, (List.getElem?_eq_some_iff.mp e).1, rfl⟩
theorem lt_R.of {l : lt_L} {d mc ms : Nat} {M : lt_M} {sh : lt_H} {σ : lt_S} {as : List Value} {Q : lt_Q} (L : List (Option Value)) (hy : plainName M.1.cls = true) (hL : as.map some ++ List.replicate (M.2.2.1 - as.length) none = L) (hlen : as.length ≤ M.2.2.1) (g : lt_G l d mc ms M 0 0 sh σ 0 L [] Q) : lt_R l d mc ms M sh σ as Q := by
  intro D dA ad sz hsok
  refine Met.ofW (cc := M.2.1) (maxL := M.2.2.1) (ret := M.2.2.2) hy rfl ?_
  intro p e s m args below meth c s₁ B hml hv
  obtain ⟨rfl, hsz, hP, hK, hD0, hok, hX⟩ := hv
  have hts0 := atoms_spec (ws := lt_ws M) B.pre
  have hts : ∀ w ∈ lt_tb, w.before (as.map (lt_tr ad)).toArray s = true := fun w hw => hts0 w (List.mem_cons_of_mem _ hw)
  have hown : s.vm.findClass M.1.cls = some m.cls := findClass_of_methodNamed B.named
  subst hsz
  have hD := lt_D_self (sz := s.heap.size) hD0
  have hS : va_S (lt_A ad sh.length s.heap.size) s.heap s.heap [] := va_S.rf
  have hl := lv_entry (as.map (lt_tr ad)) (n := M.2.2.1) (by rw [lt_sl ad as hsok]; exact hlen)
  rw [lg_entry_eq]
  generalize (lg_sl (as.map (lt_tr ad)) ++ List.replicate (M.2.2.1 - (lg_sl (as.map (lt_tr ad))).length) Slot.unset).toArray = ls at hl ⊢
  have hLv : ∀ (i : Nat) (v : Value), L[i]? = some (some v) → as[i]? = some v := by
    intro i v h
    rw [← hL] at h
    by_cases hi : i < as.length
    · rw [List.getElem?_append_left (by simpa using hi), List.getElem?_map] at h
      cases e : as[i]? with
      | none => rw [e] at h; cases h
      | some w => rw [e] at h; cases h; rfl
    · rw [List.getElem?_append_right (by simpa using hi)] at h
      have := List.mem_of_getElem? h
      simp at this
  have hsv : ∀ (as : List Value), lt_sok (10 + sh.length) as → ∀ (i : Nat) (v : Value), as[i]? = some v → lt_sv (10 + sh.length) v := by
    intro as
    induction as with
    | nil => intro _ i v h; simp at h
    | cons a r ih =>
      intro hs i v h
      cases i with
      | zero => simp only [List.getElem?_cons_zero, Option.some.injEq] at h; subst h; exact hs.1
      | succ i => exact ih hs.2 i v (by simpa using h)
  refine g p e _ s m _ below meth c s.heap [] _ D dA ad ad (lt_A ad sh.length s.heap.size) sh.length ls ⟨⟨B.exec, B.bytes, hml, hown, hts⟩, B.returns, B.notSynchronized, ?_, hK, fun q h => Or.inr h, ⟨Nat.le_refl _, Nat.le_refl _, Nat.le_refl _, Nat.le_refl _⟩, hX⟩ ⟨fun _ _ => rfl, Nat.le_refl _, hok, hP, hD, hS⟩ ⟨⟨_, hl, fun i v h => ?_⟩, fun i v h => hsv as hsok i v (hLv i v h)⟩ trivial ?_
  · intro hn
    rw [(name_of_methodNamed B.named B.method).1]
    exact hn
  · have := lt_entry ad as 0 i v hsok (hLv i v h)
    rwa [Nat.zero_add] at this
  · intro r sh' σ' ad' H' locs' pc' ls' hQ hWd hr
    obtain ⟨h1, h2, h3, h4, h5, h6⟩ := hWd
    cases r with
    | none =>
      obtain ⟨hn, hdg⟩ := hr
      exact W.vret B.exec B.bytes (B.returns.trans hn) (fun t ht _ => ⟨⟨none, sh', σ', ad', hQ, rfl, h1, h2, h3, by rw [ht]; exact h4, h5⟩, h6.F ht⟩) h6.2.2 hdg B.notSynchronized
    | some x =>
      obtain ⟨ty, hn, hnar, hdg⟩ := hr
      exact W.zret B.exec B.bytes (B.returns.trans hn) hnar (fun t ht _ => ⟨⟨some x, sh', σ', ad', hQ, rfl, h1, h2, h3, by rw [ht]; exact h4, h5⟩, h6.F ht⟩) h6.2.2 hdg B.notSynchronized
end
section
section LT1
variable {l : lt_L} {d mc ms : Nat} {M : lt_M} {ck cn : Nat} {sh : lt_H} {σ : lt_S} {pc : Nat} {L : List (Option Value)} {st : List Value} {Q : lt_Q}
theorem g_iconst {n : Int} {v : Int32} {pc2 : Nat} (hd : decode M.2.1 pc = .ok (.iconst n, 1)) (hv : Int32.ofInt n = v) (he : pc + 1 = pc2) (k : lt_G l d mc ms M ck cn sh σ pc2 L (.int v :: st) Q) : lt_G l d mc ms M ck cn sh σ pc L st Q := by
  subst he
  intro p e R s m args below meth c H locs Z D dA ad0 ad A N0 ls C Wd hl ho hr
  exact lv_iconst C.1.1 C.1.2.1 hd hv (k p e R s m args below meth c H locs Z D dA ad0 ad A N0 ls C Wd hl ⟨trivial, ho⟩ hr)
theorem g_bipush {n : Int} {v : Int32} {pc2 : Nat} (hd : decode M.2.1 pc = .ok (.bipush n, 2)) (hv : (Int8.ofInt n).toInt32 = v) (he : pc + 2 = pc2) (k : lt_G l d mc ms M ck cn sh σ pc2 L (.int v :: st) Q) : lt_G l d mc ms M ck cn sh σ pc L st Q := by
  subst he
  intro p e R s m args below meth c H locs Z D dA ad0 ad A N0 ls C Wd hl ho hr
  exact lv_bipush C.1.1 C.1.2.1 hd hv (k p e R s m args below meth c H locs Z D dA ad0 ad A N0 ls C Wd hl ⟨trivial, ho⟩ hr)
theorem g_sipush {n : Int} {v : Int32} {pc2 : Nat} (hd : decode M.2.1 pc = .ok (.sipush n, 3)) (hv : (Int16.ofInt n).toInt32 = v) (he : pc + 3 = pc2) (k : lt_G l d mc ms M ck cn sh σ pc2 L (.int v :: st) Q) : lt_G l d mc ms M ck cn sh σ pc L st Q := by
  subst he
  intro p e R s m args below meth c H locs Z D dA ad0 ad A N0 ls C Wd hl ho hr
  exact lv_sipush C.1.1 C.1.2.1 hd hv (k p e R s m args below meth c H locs Z D dA ad0 ad A N0 ls C Wd hl ⟨trivial, ho⟩ hr)
theorem g_iadd {x y : Int32} {pc2 : Nat} (hd : decode M.2.1 pc = .ok (.iadd, 1)) (he : pc + 1 = pc2) (k : lt_G l d mc ms M ck cn sh σ pc2 L (.int (x + y) :: st) Q) : lt_G l d mc ms M ck cn sh σ pc L (.int y :: .int x :: st) Q := by
  subst he
  intro p e R s m args below meth c H locs Z D dA ad0 ad A N0 ls C Wd hl ho hr
  exact lv_iadd C.1.1 C.1.2.1 hd (k p e R s m args below meth c H locs Z D dA ad0 ad A N0 ls C Wd hl ⟨trivial, ho.2.2⟩ hr)
theorem g_isub {x y : Int32} {pc2 : Nat} (hd : decode M.2.1 pc = .ok (.isub, 1)) (he : pc + 1 = pc2) (k : lt_G l d mc ms M ck cn sh σ pc2 L (.int (x - y) :: st) Q) : lt_G l d mc ms M ck cn sh σ pc L (.int y :: .int x :: st) Q := by
  subst he
  intro p e R s m args below meth c H locs Z D dA ad0 ad A N0 ls C Wd hl ho hr
  exact lv_isub C.1.1 C.1.2.1 hd (k p e R s m args below meth c H locs Z D dA ad0 ad A N0 ls C Wd hl ⟨trivial, ho.2.2⟩ hr)
theorem g_imul {x y : Int32} {pc2 : Nat} (hd : decode M.2.1 pc = .ok (.imul, 1)) (he : pc + 1 = pc2) (k : lt_G l d mc ms M ck cn sh σ pc2 L (.int (x * y) :: st) Q) : lt_G l d mc ms M ck cn sh σ pc L (.int y :: .int x :: st) Q := by
  subst he
  intro p e R s m args below meth c H locs Z D dA ad0 ad A N0 ls C Wd hl ho hr
  exact lv_imul C.1.1 C.1.2.1 hd (k p e R s m args below meth c H locs Z D dA ad0 ad A N0 ls C Wd hl ⟨trivial, ho.2.2⟩ hr)
theorem g_iand {x y : Int32} {pc2 : Nat} (hd : decode M.2.1 pc = .ok (.iand, 1)) (he : pc + 1 = pc2) (k : lt_G l d mc ms M ck cn sh σ pc2 L (.int (x &&& y) :: st) Q) : lt_G l d mc ms M ck cn sh σ pc L (.int y :: .int x :: st) Q := by
  subst he
  intro p e R s m args below meth c H locs Z D dA ad0 ad A N0 ls C Wd hl ho hr
  exact lv_iand C.1.1 C.1.2.1 hd (k p e R s m args below meth c H locs Z D dA ad0 ad A N0 ls C Wd hl ⟨trivial, ho.2.2⟩ hr)
theorem g_ior {x y : Int32} {pc2 : Nat} (hd : decode M.2.1 pc = .ok (.ior, 1)) (he : pc + 1 = pc2) (k : lt_G l d mc ms M ck cn sh σ pc2 L (.int (x ||| y) :: st) Q) : lt_G l d mc ms M ck cn sh σ pc L (.int y :: .int x :: st) Q := by
  subst he
  intro p e R s m args below meth c H locs Z D dA ad0 ad A N0 ls C Wd hl ho hr
  exact lv_ior C.1.1 C.1.2.1 hd (k p e R s m args below meth c H locs Z D dA ad0 ad A N0 ls C Wd hl ⟨trivial, ho.2.2⟩ hr)
theorem g_ishl {x y : Int32} {pc2 : Nat} (hd : decode M.2.1 pc = .ok (.ishl, 1)) (he : pc + 1 = pc2) (k : lt_G l d mc ms M ck cn sh σ pc2 L (.int (x <<< (y &&& 31)) :: st) Q) : lt_G l d mc ms M ck cn sh σ pc L (.int y :: .int x :: st) Q := by
  subst he
  intro p e R s m args below meth c H locs Z D dA ad0 ad A N0 ls C Wd hl ho hr
  exact lv_ishl C.1.1 C.1.2.1 hd (k p e R s m args below meth c H locs Z D dA ad0 ad A N0 ls C Wd hl ⟨trivial, ho.2.2⟩ hr)
theorem g_ishr {x y : Int32} {pc2 : Nat} (hd : decode M.2.1 pc = .ok (.ishr, 1)) (he : pc + 1 = pc2) (k : lt_G l d mc ms M ck cn sh σ pc2 L (.int (x >>> (y &&& 31)) :: st) Q) : lt_G l d mc ms M ck cn sh σ pc L (.int y :: .int x :: st) Q := by
  subst he
  intro p e R s m args below meth c H locs Z D dA ad0 ad A N0 ls C Wd hl ho hr
  exact lv_ishr C.1.1 C.1.2.1 hd (k p e R s m args below meth c H locs Z D dA ad0 ad A N0 ls C Wd hl ⟨trivial, ho.2.2⟩ hr)
theorem g_idiv {x y : Int32} {pc2 : Nat} (hd : decode M.2.1 pc = .ok (.idiv, 1)) (hne : ¬ y = 0) (he : pc + 1 = pc2) (k : lt_G l d mc ms M ck cn sh σ pc2 L (.int (x / y) :: st) Q) : lt_G l d mc ms M ck cn sh σ pc L (.int y :: .int x :: st) Q := by
  subst he
  intro p e R s m args below meth c H locs Z D dA ad0 ad A N0 ls C Wd hl ho hr
  exact lv_idiv C.1.1 C.1.2.1 hd hne (k p e R s m args below meth c H locs Z D dA ad0 ad A N0 ls C Wd hl ⟨trivial, ho.2.2⟩ hr)
theorem g_irem {x y : Int32} {pc2 : Nat} (hd : decode M.2.1 pc = .ok (.irem, 1)) (hne : ¬ y = 0) (he : pc + 1 = pc2) (k : lt_G l d mc ms M ck cn sh σ pc2 L (.int (x - x / y * y) :: st) Q) : lt_G l d mc ms M ck cn sh σ pc L (.int y :: .int x :: st) Q := by
  subst he
  intro p e R s m args below meth c H locs Z D dA ad0 ad A N0 ls C Wd hl ho hr
  exact lv_irem C.1.1 C.1.2.1 hd hne (k p e R s m args below meth c H locs Z D dA ad0 ad A N0 ls C Wd hl ⟨trivial, ho.2.2⟩ hr)
theorem g_i2c {x v : Int32} {pc2 : Nat} (hd : decode M.2.1 pc = .ok (.i2c, 1)) (hv : (x.toUInt32 % 65536).toInt32 = v) (he : pc + 1 = pc2) (k : lt_G l d mc ms M ck cn sh σ pc2 L (.int v :: st) Q) : lt_G l d mc ms M ck cn sh σ pc L (.int x :: st) Q := by
  subst he
  intro p e R s m args below meth c H locs Z D dA ad0 ad A N0 ls C Wd hl ho hr
  exact lv_i2c C.1.1 C.1.2.1 hd hv (k p e R s m args below meth c H locs Z D dA ad0 ad A N0 ls C Wd hl ⟨trivial, ho.2⟩ hr)
theorem g_dup {v : Value} {pc2 : Nat} (hd : decode M.2.1 pc = .ok (.dup, 1)) (he : pc + 1 = pc2) (k : lt_G l d mc ms M ck cn sh σ pc2 L (v :: v :: st) Q) : lt_G l d mc ms M ck cn sh σ pc L (v :: st) Q := by
  subst he
  intro p e R s m args below meth c H locs Z D dA ad0 ad A N0 ls C Wd hl ho hr
  exact lv_dup C.1.1 C.1.2.1 hd (ho.1.cat ad) (k p e R s m args below meth c H locs Z D dA ad0 ad A N0 ls C Wd hl ⟨ho.1, ho⟩ hr)
theorem g_pop {v : Value} {pc2 : Nat} (hd : decode M.2.1 pc = .ok (.pop, 1)) (he : pc + 1 = pc2) (k : lt_G l d mc ms M ck cn sh σ pc2 L st Q) : lt_G l d mc ms M ck cn sh σ pc L (v :: st) Q := by
  subst he
  intro p e R s m args below meth c H locs Z D dA ad0 ad A N0 ls C Wd hl ho hr
  exact lv_pop C.1.1 C.1.2.1 hd (ho.1.cat ad) (k p e R s m args below meth c H locs Z D dA ad0 ad A N0 ls C Wd hl ho.2 hr)
theorem g_dup2 {v w : Value} {pc2 : Nat} (hd : decode M.2.1 pc = .ok (.dup2, 1)) (he : pc + 1 = pc2) (k : lt_G l d mc ms M ck cn sh σ pc2 L (v :: w :: v :: w :: st) Q) : lt_G l d mc ms M ck cn sh σ pc L (v :: w :: st) Q := by
  subst he
  intro p e R s m args below meth c H locs Z D dA ad0 ad A N0 ls C Wd hl ho hr
  exact lv_dup2_11 C.1.1 C.1.2.1 hd (ho.1.cat ad) (ho.2.1.cat ad) (k p e R s m args below meth c H locs Z D dA ad0 ad A N0 ls C Wd hl ⟨ho.1, ho.2.1, ho⟩ hr)
theorem g_iaddN {a b pc2 : Nat} (hd : decode M.2.1 pc = .ok (.iadd, 1)) (he : pc + 1 = pc2) (k : lt_G l d mc ms M ck cn sh σ pc2 L (.int (nI (a + b)) :: st) Q) : lt_G l d mc ms M ck cn sh σ pc L (.int (nI b) :: .int (nI a) :: st) Q := g_iadd hd he (by rw [nI_add]; exact k)
theorem g_imulN {a b pc2 : Nat} (hd : decode M.2.1 pc = .ok (.imul, 1)) (he : pc + 1 = pc2) (k : lt_G l d mc ms M ck cn sh σ pc2 L (.int (nI (a * b)) :: st) Q) : lt_G l d mc ms M ck cn sh σ pc L (.int (nI b) :: .int (nI a) :: st) Q := g_imul hd he (by rw [pk_mul]; exact k)
theorem g_isubN {a b pc2 : Nat} (hd : decode M.2.1 pc = .ok (.isub, 1)) (he : pc + 1 = pc2) (hb : b ≤ a) (k : lt_G l d mc ms M ck cn sh σ pc2 L (.int (nI (a - b)) :: st) Q) : lt_G l d mc ms M ck cn sh σ pc L (.int (nI b) :: .int (nI a) :: st) Q := g_isub hd he (by rw [pk_sub hb]; exact k)
theorem g_idivN {a b pc2 : Nat} (hd : decode M.2.1 pc = .ok (.idiv, 1)) (he : pc + 1 = pc2) (ha : a < 2 ^ 31) (h0 : 0 < b) (hb : b < 2 ^ 31) (k : lt_G l d mc ms M ck cn sh σ pc2 L (.int (nI (a / b)) :: st) Q) : lt_G l d mc ms M ck cn sh σ pc L (.int (nI b) :: .int (nI a) :: st) Q := g_idiv hd (nI_ne0 h0 hb) he (by rw [pk_div ha h0 hb]; exact k)
theorem g_iremN {a b pc2 : Nat} (hd : decode M.2.1 pc = .ok (.irem, 1)) (he : pc + 1 = pc2) (ha : a < 2 ^ 31) (h0 : 0 < b) (hb : b < 2 ^ 31) (k : lt_G l d mc ms M ck cn sh σ pc2 L (.int (nI (a % b)) :: st) Q) : lt_G l d mc ms M ck cn sh σ pc L (.int (nI b) :: .int (nI a) :: st) Q := g_irem hd (nI_ne0 h0 hb) he (by rw [pk_rem ha h0 hb]; exact k)
theorem g_goto {off : Int} (tgt : Nat) (hd : decode M.2.1 pc = .ok (.goto off, 3)) (ht : (pc : Int) + off = (tgt : Int)) (k : lt_G l d mc ms M ck cn sh σ tgt L st Q) : lt_G l d mc ms M ck cn sh σ pc L st Q := by
  intro p e R s m args below meth c H locs Z D dA ad0 ad A N0 ls C Wd hl ho hr
  exact lv_goto C.1.1 C.1.2.1 hd ht (k p e R s m args below meth c H locs Z D dA ad0 ad A N0 ls C Wd hl ho hr)
theorem g_if_eq {x : Int32} {off : Int} (tgt pc2 : Nat) (hd : decode M.2.1 pc = .ok (.ifCond .eq off, 3)) (ht : (pc : Int) + off = (tgt : Int)) (he : pc + 3 = pc2) (kt : x = 0 → lt_G l d mc ms M ck cn sh σ tgt L st Q) (kf : ¬ x = 0 → lt_G l d mc ms M ck cn sh σ pc2 L st Q) : lt_G l d mc ms M ck cn sh σ pc L (.int x :: st) Q := by
  subst he
  intro p e R s m args below meth c H locs Z D dA ad0 ad A N0 ls C Wd hl ho hr
  exact lv_if_eq C.1.1 C.1.2.1 hd ht (fun h => (kt h) p e R s m args below meth c H locs Z D dA ad0 ad A N0 ls C Wd hl ho.2 hr) (fun h => (kf h) p e R s m args below meth c H locs Z D dA ad0 ad A N0 ls C Wd hl ho.2 hr)
theorem g_icmp_eq {x y : Int32} {off : Int} (tgt pc2 : Nat) (hd : decode M.2.1 pc = .ok (.if_icmp .eq off, 3)) (ht : (pc : Int) + off = (tgt : Int)) (he : pc + 3 = pc2) (kt : x = y → lt_G l d mc ms M ck cn sh σ tgt L st Q) (kf : ¬ x = y → lt_G l d mc ms M ck cn sh σ pc2 L st Q) : lt_G l d mc ms M ck cn sh σ pc L (.int y :: .int x :: st) Q := by
  subst he
  intro p e R s m args below meth c H locs Z D dA ad0 ad A N0 ls C Wd hl ho hr
  exact lv_icmp_eq C.1.1 C.1.2.1 hd ht (fun h => (kt h) p e R s m args below meth c H locs Z D dA ad0 ad A N0 ls C Wd hl ho.2.2 hr) (fun h => (kf h) p e R s m args below meth c H locs Z D dA ad0 ad A N0 ls C Wd hl ho.2.2 hr)
theorem g_if_ne {x : Int32} {off : Int} (tgt pc2 : Nat) (hd : decode M.2.1 pc = .ok (.ifCond .ne off, 3)) (ht : (pc : Int) + off = (tgt : Int)) (he : pc + 3 = pc2) (kt : ¬ x = 0 → lt_G l d mc ms M ck cn sh σ tgt L st Q) (kf : x = 0 → lt_G l d mc ms M ck cn sh σ pc2 L st Q) : lt_G l d mc ms M ck cn sh σ pc L (.int x :: st) Q := by
  subst he
  intro p e R s m args below meth c H locs Z D dA ad0 ad A N0 ls C Wd hl ho hr
  exact lv_if_ne C.1.1 C.1.2.1 hd ht (fun h => (kt h) p e R s m args below meth c H locs Z D dA ad0 ad A N0 ls C Wd hl ho.2 hr) (fun h => (kf h) p e R s m args below meth c H locs Z D dA ad0 ad A N0 ls C Wd hl ho.2 hr)
theorem g_icmp_ne {x y : Int32} {off : Int} (tgt pc2 : Nat) (hd : decode M.2.1 pc = .ok (.if_icmp .ne off, 3)) (ht : (pc : Int) + off = (tgt : Int)) (he : pc + 3 = pc2) (kt : ¬ x = y → lt_G l d mc ms M ck cn sh σ tgt L st Q) (kf : x = y → lt_G l d mc ms M ck cn sh σ pc2 L st Q) : lt_G l d mc ms M ck cn sh σ pc L (.int y :: .int x :: st) Q := by
  subst he
  intro p e R s m args below meth c H locs Z D dA ad0 ad A N0 ls C Wd hl ho hr
  exact lv_icmp_ne C.1.1 C.1.2.1 hd ht (fun h => (kt h) p e R s m args below meth c H locs Z D dA ad0 ad A N0 ls C Wd hl ho.2.2 hr) (fun h => (kf h) p e R s m args below meth c H locs Z D dA ad0 ad A N0 ls C Wd hl ho.2.2 hr)
theorem g_if_lt {x : Int32} {off : Int} (tgt pc2 : Nat) (hd : decode M.2.1 pc = .ok (.ifCond .lt off, 3)) (ht : (pc : Int) + off = (tgt : Int)) (he : pc + 3 = pc2) (kt : x < 0 → lt_G l d mc ms M ck cn sh σ tgt L st Q) (kf : ¬ x < 0 → lt_G l d mc ms M ck cn sh σ pc2 L st Q) : lt_G l d mc ms M ck cn sh σ pc L (.int x :: st) Q := by
  subst he
  intro p e R s m args below meth c H locs Z D dA ad0 ad A N0 ls C Wd hl ho hr
  exact lv_if_lt C.1.1 C.1.2.1 hd ht (fun h => (kt h) p e R s m args below meth c H locs Z D dA ad0 ad A N0 ls C Wd hl ho.2 hr) (fun h => (kf h) p e R s m args below meth c H locs Z D dA ad0 ad A N0 ls C Wd hl ho.2 hr)
theorem g_icmp_lt {x y : Int32} {off : Int} (tgt pc2 : Nat) (hd : decode M.2.1 pc = .ok (.if_icmp .lt off, 3)) (ht : (pc : Int) + off = (tgt : Int)) (he : pc + 3 = pc2) (kt : x < y → lt_G l d mc ms M ck cn sh σ tgt L st Q) (kf : ¬ x < y → lt_G l d mc ms M ck cn sh σ pc2 L st Q) : lt_G l d mc ms M ck cn sh σ pc L (.int y :: .int x :: st) Q := by
  subst he
  intro p e R s m args below meth c H locs Z D dA ad0 ad A N0 ls C Wd hl ho hr
  exact lv_icmp_lt C.1.1 C.1.2.1 hd ht (fun h => (kt h) p e R s m args below meth c H locs Z D dA ad0 ad A N0 ls C Wd hl ho.2.2 hr) (fun h => (kf h) p e R s m args below meth c H locs Z D dA ad0 ad A N0 ls C Wd hl ho.2.2 hr)
theorem g_if_ge {x : Int32} {off : Int} (tgt pc2 : Nat) (hd : decode M.2.1 pc = .ok (.ifCond .ge off, 3)) (ht : (pc : Int) + off = (tgt : Int)) (he : pc + 3 = pc2) (kt : 0 ≤ x → lt_G l d mc ms M ck cn sh σ tgt L st Q) (kf : ¬ 0 ≤ x → lt_G l d mc ms M ck cn sh σ pc2 L st Q) : lt_G l d mc ms M ck cn sh σ pc L (.int x :: st) Q := by
  subst he
  intro p e R s m args below meth c H locs Z D dA ad0 ad A N0 ls C Wd hl ho hr
  exact lv_if_ge C.1.1 C.1.2.1 hd ht (fun h => (kt h) p e R s m args below meth c H locs Z D dA ad0 ad A N0 ls C Wd hl ho.2 hr) (fun h => (kf h) p e R s m args below meth c H locs Z D dA ad0 ad A N0 ls C Wd hl ho.2 hr)
theorem g_icmp_ge {x y : Int32} {off : Int} (tgt pc2 : Nat) (hd : decode M.2.1 pc = .ok (.if_icmp .ge off, 3)) (ht : (pc : Int) + off = (tgt : Int)) (he : pc + 3 = pc2) (kt : y ≤ x → lt_G l d mc ms M ck cn sh σ tgt L st Q) (kf : ¬ y ≤ x → lt_G l d mc ms M ck cn sh σ pc2 L st Q) : lt_G l d mc ms M ck cn sh σ pc L (.int y :: .int x :: st) Q := by
  subst he
  intro p e R s m args below meth c H locs Z D dA ad0 ad A N0 ls C Wd hl ho hr
  exact lv_icmp_ge C.1.1 C.1.2.1 hd ht (fun h => (kt h) p e R s m args below meth c H locs Z D dA ad0 ad A N0 ls C Wd hl ho.2.2 hr) (fun h => (kf h) p e R s m args below meth c H locs Z D dA ad0 ad A N0 ls C Wd hl ho.2.2 hr)
theorem g_if_gt {x : Int32} {off : Int} (tgt pc2 : Nat) (hd : decode M.2.1 pc = .ok (.ifCond .gt off, 3)) (ht : (pc : Int) + off = (tgt : Int)) (he : pc + 3 = pc2) (kt : 0 < x → lt_G l d mc ms M ck cn sh σ tgt L st Q) (kf : ¬ 0 < x → lt_G l d mc ms M ck cn sh σ pc2 L st Q) : lt_G l d mc ms M ck cn sh σ pc L (.int x :: st) Q := by
  subst he
  intro p e R s m args below meth c H locs Z D dA ad0 ad A N0 ls C Wd hl ho hr
  exact lv_if_gt C.1.1 C.1.2.1 hd ht (fun h => (kt h) p e R s m args below meth c H locs Z D dA ad0 ad A N0 ls C Wd hl ho.2 hr) (fun h => (kf h) p e R s m args below meth c H locs Z D dA ad0 ad A N0 ls C Wd hl ho.2 hr)
theorem g_icmp_gt {x y : Int32} {off : Int} (tgt pc2 : Nat) (hd : decode M.2.1 pc = .ok (.if_icmp .gt off, 3)) (ht : (pc : Int) + off = (tgt : Int)) (he : pc + 3 = pc2) (kt : y < x → lt_G l d mc ms M ck cn sh σ tgt L st Q) (kf : ¬ y < x → lt_G l d mc ms M ck cn sh σ pc2 L st Q) : lt_G l d mc ms M ck cn sh σ pc L (.int y :: .int x :: st) Q := by
  subst he
  intro p e R s m args below meth c H locs Z D dA ad0 ad A N0 ls C Wd hl ho hr
  exact lv_icmp_gt C.1.1 C.1.2.1 hd ht (fun h => (kt h) p e R s m args below meth c H locs Z D dA ad0 ad A N0 ls C Wd hl ho.2.2 hr) (fun h => (kf h) p e R s m args below meth c H locs Z D dA ad0 ad A N0 ls C Wd hl ho.2.2 hr)
theorem g_if_le {x : Int32} {off : Int} (tgt pc2 : Nat) (hd : decode M.2.1 pc = .ok (.ifCond .le off, 3)) (ht : (pc : Int) + off = (tgt : Int)) (he : pc + 3 = pc2) (kt : x ≤ 0 → lt_G l d mc ms M ck cn sh σ tgt L st Q) (kf : ¬ x ≤ 0 → lt_G l d mc ms M ck cn sh σ pc2 L st Q) : lt_G l d mc ms M ck cn sh σ pc L (.int x :: st) Q := by
  subst he
  intro p e R s m args below meth c H locs Z D dA ad0 ad A N0 ls C Wd hl ho hr
  exact lv_if_le C.1.1 C.1.2.1 hd ht (fun h => (kt h) p e R s m args below meth c H locs Z D dA ad0 ad A N0 ls C Wd hl ho.2 hr) (fun h => (kf h) p e R s m args below meth c H locs Z D dA ad0 ad A N0 ls C Wd hl ho.2 hr)
theorem g_icmp_le {x y : Int32} {off : Int} (tgt pc2 : Nat) (hd : decode M.2.1 pc = .ok (.if_icmp .le off, 3)) (ht : (pc : Int) + off = (tgt : Int)) (he : pc + 3 = pc2) (kt : x ≤ y → lt_G l d mc ms M ck cn sh σ tgt L st Q) (kf : ¬ x ≤ y → lt_G l d mc ms M ck cn sh σ pc2 L st Q) : lt_G l d mc ms M ck cn sh σ pc L (.int y :: .int x :: st) Q := by
  subst he
  intro p e R s m args below meth c H locs Z D dA ad0 ad A N0 ls C Wd hl ho hr
  exact lv_icmp_le C.1.1 C.1.2.1 hd ht (fun h => (kt h) p e R s m args below meth c H locs Z D dA ad0 ad A N0 ls C Wd hl ho.2.2 hr) (fun h => (kf h) p e R s m args below meth c H locs Z D dA ad0 ad A N0 ls C Wd hl ho.2.2 hr)
theorem g_icmpN_eq {a b : Nat} {off : Int} (tgt pc2 : Nat) (hd : decode M.2.1 pc = .ok (.if_icmp .eq off, 3)) (ht : (pc : Int) + off = (tgt : Int)) (he : pc + 3 = pc2) (ha : a < 2 ^ 31) (hb : b < 2 ^ 31) (kt : a = b → lt_G l d mc ms M ck cn sh σ tgt L st Q) (kf : ¬ a = b → lt_G l d mc ms M ck cn sh σ pc2 L st Q) : lt_G l d mc ms M ck cn sh σ pc L (.int (nI b) :: .int (nI a) :: st) Q :=
  g_icmp_eq tgt pc2 hd ht he (fun h => kt ((nI_eq ha hb).mp h)) (fun h => kf (fun e => h ((nI_eq ha hb).mpr e)))
theorem g_icmpN_ne {a b : Nat} {off : Int} (tgt pc2 : Nat) (hd : decode M.2.1 pc = .ok (.if_icmp .ne off, 3)) (ht : (pc : Int) + off = (tgt : Int)) (he : pc + 3 = pc2) (ha : a < 2 ^ 31) (hb : b < 2 ^ 31) (kt : ¬ a = b → lt_G l d mc ms M ck cn sh σ tgt L st Q) (kf : a = b → lt_G l d mc ms M ck cn sh σ pc2 L st Q) : lt_G l d mc ms M ck cn sh σ pc L (.int (nI b) :: .int (nI a) :: st) Q :=
  g_icmp_ne tgt pc2 hd ht he (fun h => kt (fun e => h ((nI_eq ha hb).mpr e))) (fun h => kf ((nI_eq ha hb).mp h))
theorem g_icmpN_lt {a b : Nat} {off : Int} (tgt pc2 : Nat) (hd : decode M.2.1 pc = .ok (.if_icmp .lt off, 3)) (ht : (pc : Int) + off = (tgt : Int)) (he : pc + 3 = pc2) (ha : a < 2 ^ 31) (hb : b < 2 ^ 31) (kt : a < b → lt_G l d mc ms M ck cn sh σ tgt L st Q) (kf : ¬ a < b → lt_G l d mc ms M ck cn sh σ pc2 L st Q) : lt_G l d mc ms M ck cn sh σ pc L (.int (nI b) :: .int (nI a) :: st) Q :=
  g_icmp_lt tgt pc2 hd ht he (fun h => kt ((nI_ltI ha hb).mp h)) (fun h => kf (fun e => h ((nI_ltI ha hb).mpr e)))
theorem g_icmpN_ge {a b : Nat} {off : Int} (tgt pc2 : Nat) (hd : decode M.2.1 pc = .ok (.if_icmp .ge off, 3)) (ht : (pc : Int) + off = (tgt : Int)) (he : pc + 3 = pc2) (ha : a < 2 ^ 31) (hb : b < 2 ^ 31) (kt : b ≤ a → lt_G l d mc ms M ck cn sh σ tgt L st Q) (kf : ¬ b ≤ a → lt_G l d mc ms M ck cn sh σ pc2 L st Q) : lt_G l d mc ms M ck cn sh σ pc L (.int (nI b) :: .int (nI a) :: st) Q :=
  g_icmp_ge tgt pc2 hd ht he (fun h => kt ((nI_leI hb ha).mp h)) (fun h => kf (fun e => h ((nI_leI hb ha).mpr e)))
theorem g_icmpN_gt {a b : Nat} {off : Int} (tgt pc2 : Nat) (hd : decode M.2.1 pc = .ok (.if_icmp .gt off, 3)) (ht : (pc : Int) + off = (tgt : Int)) (he : pc + 3 = pc2) (ha : a < 2 ^ 31) (hb : b < 2 ^ 31) (kt : b < a → lt_G l d mc ms M ck cn sh σ tgt L st Q) (kf : ¬ b < a → lt_G l d mc ms M ck cn sh σ pc2 L st Q) : lt_G l d mc ms M ck cn sh σ pc L (.int (nI b) :: .int (nI a) :: st) Q :=
  g_icmp_gt tgt pc2 hd ht he (fun h => kt ((nI_ltI hb ha).mp h)) (fun h => kf (fun e => h ((nI_ltI hb ha).mpr e)))
theorem g_icmpN_le {a b : Nat} {off : Int} (tgt pc2 : Nat) (hd : decode M.2.1 pc = .ok (.if_icmp .le off, 3)) (ht : (pc : Int) + off = (tgt : Int)) (he : pc + 3 = pc2) (ha : a < 2 ^ 31) (hb : b < 2 ^ 31) (kt : a ≤ b → lt_G l d mc ms M ck cn sh σ tgt L st Q) (kf : ¬ a ≤ b → lt_G l d mc ms M ck cn sh σ pc2 L st Q) : lt_G l d mc ms M ck cn sh σ pc L (.int (nI b) :: .int (nI a) :: st) Q :=
  g_icmp_le tgt pc2 hd ht he (fun h => kt ((nI_leI ha hb).mp h)) (fun h => kf (fun e => h ((nI_leI ha hb).mpr e)))
theorem g_iload_n {k0 : Fin 4} {i : Nat} {x : Int32} {pc2 : Nat} (hd : decode M.2.1 pc = .ok (.iload_n k0, 1)) (hi : (k0 : Nat) = i) (hL : L[i]? = some (some (.int x))) (he : pc + 1 = pc2) (k : lt_G l d mc ms M ck cn sh σ pc2 L (.int x :: st) Q) : lt_G l d mc ms M ck cn sh σ pc L st Q := by
  subst he
  intro p e R s m args below meth c H locs Z D dA ad0 ad A N0 ls C Wd hl ho hr
  obtain ⟨lv, h1, h2⟩ := hl.1
  exact lv_iload_n C.1.1 C.1.2.1 hd hi (h1.2.2 _ (h2 i _ hL)) (k p e R s m args below meth c H locs Z D dA ad0 ad A N0 ls C Wd hl ⟨trivial, ho⟩ hr)
theorem g_iload {i : Nat} {x : Int32} {pc2 : Nat} (hd : decode M.2.1 pc = .ok (.iload i, 2)) (hL : L[i]? = some (some (.int x))) (he : pc + 2 = pc2) (k : lt_G l d mc ms M ck cn sh σ pc2 L (.int x :: st) Q) : lt_G l d mc ms M ck cn sh σ pc L st Q := by
  subst he
  intro p e R s m args below meth c H locs Z D dA ad0 ad A N0 ls C Wd hl ho hr
  obtain ⟨lv, h1, h2⟩ := hl.1
  exact lv_iload C.1.1 C.1.2.1 hd (h1.2.2 _ (h2 i _ hL)) (k p e R s m args below meth c H locs Z D dA ad0 ad A N0 ls C Wd hl ⟨trivial, ho⟩ hr)
theorem g_aload_n {k0 : Fin 4} {i : Nat} {x : Nat} {pc2 : Nat} (hd : decode M.2.1 pc = .ok (.aload_n k0, 1)) (hi : (k0 : Nat) = i) (hL : L[i]? = some (some (.ref x))) (he : pc + 1 = pc2) (k : lt_G l d mc ms M ck cn sh σ pc2 L (.ref x :: st) Q) : lt_G l d mc ms M ck cn sh σ pc L st Q := by
  subst he
  intro p e R s m args below meth c H locs Z D dA ad0 ad A N0 ls C Wd hl ho hr
  obtain ⟨lv, h1, h2⟩ := hl.1
  exact lv_aload_n C.1.1 C.1.2.1 hd hi (h1.2.2 _ (h2 i _ hL)) (k p e R s m args below meth c H locs Z D dA ad0 ad A N0 ls C Wd hl ⟨(hl.2 _ _ hL), ho⟩ hr)
theorem g_aload {i : Nat} {x : Nat} {pc2 : Nat} (hd : decode M.2.1 pc = .ok (.aload i, 2)) (hL : L[i]? = some (some (.ref x))) (he : pc + 2 = pc2) (k : lt_G l d mc ms M ck cn sh σ pc2 L (.ref x :: st) Q) : lt_G l d mc ms M ck cn sh σ pc L st Q := by
  subst he
  intro p e R s m args below meth c H locs Z D dA ad0 ad A N0 ls C Wd hl ho hr
  obtain ⟨lv, h1, h2⟩ := hl.1
  exact lv_aload C.1.1 C.1.2.1 hd (h1.2.2 _ (h2 i _ hL)) (k p e R s m args below meth c H locs Z D dA ad0 ad A N0 ls C Wd hl ⟨(hl.2 _ _ hL), ho⟩ hr)
theorem lt_lv.store {ad : Nat → Nat} {ls' : Array Slot} {nL N i : Nat} {v : Value} {lv : List (Nat × Value)} (h : ∀ (j : Nat) (w : Value), L[j]? = some (some w) → (j, lt_tr ad w) ∈ lv) (hs : ∀ (j : Nat) (w : Value), L[j]? = some (some w) → lt_sv N w) (hv : lt_sv N v) (h' : lv_has ls' nL ((i, lt_tr ad v) :: lv.filter (fun q => !(q.1 == i) && !(q.1 + 1 == i && q.2.category == 2)))) : lt_lv ad ls' nL N (L.set i (some v)) := by
  refine ⟨⟨_, h', fun j w hj => ?_⟩, fun j w hj => ?_⟩
  · by_cases e : i = j
    · subst e
      by_cases hl : i < L.length
      · rw [List.getElem?_set_self hl] at hj
        cases hj
        exact List.mem_cons_self
      · rw [List.getElem?_eq_none (by rw [List.length_set]; omega)] at hj
        cases hj
    · rw [List.getElem?_set_ne e] at hj
      refine List.mem_cons_of_mem _ (List.mem_filter.mpr ⟨h j w hj, ?_⟩)
      have e1 : (j == i) = false := by simp; omega
      have e2 : ((lt_tr ad w).category == 2) = false := by rw [(hs j w hj).cat ad]; rfl
      show (!(j == i) && !(j + 1 == i && (lt_tr ad w).category == 2)) = true
      rw [e1, e2]; simp
  · by_cases e : i = j
    · subst e
      by_cases hl : i < L.length
      · rw [List.getElem?_set_self hl] at hj
        cases hj
        exact hv
      · rw [List.getElem?_eq_none (by rw [List.length_set]; omega)] at hj
        cases hj
    · rw [List.getElem?_set_ne e] at hj
      exact hs j w hj
theorem g_istore_n {k0 : Fin 4} {i : Nat} {x : Int32} {pc2 : Nat} (hd : decode M.2.1 pc = .ok (.istore_n k0, 1)) (hi : (k0 : Nat) = i) (hn : i < M.2.2.1) (he : pc + 1 = pc2) (k : lt_G l d mc ms M ck cn sh σ pc2 (L.set i (some (.int x))) st Q) : lt_G l d mc ms M ck cn sh σ pc L (.int x :: st) Q := by
  subst he
  intro p e R s m args below meth c H locs Z D dA ad0 ad A N0 ls C Wd hl ho hr
  obtain ⟨⟨lv, h1, h2⟩, h3⟩ := hl
  exact lv_istore_n C.1.1 C.1.2.1 hd hi h1 hn rfl (fun ls' h' => k p e R s m args below meth c H locs Z D dA ad0 ad A N0 ls' C Wd (lt_lv.store (v := .int x) h2 h3 trivial h') ho.2 hr)
theorem g_istore {i : Nat} {x : Int32} {pc2 : Nat} (hd : decode M.2.1 pc = .ok (.istore i, 2)) (hn : i < M.2.2.1) (he : pc + 2 = pc2) (k : lt_G l d mc ms M ck cn sh σ pc2 (L.set i (some (.int x))) st Q) : lt_G l d mc ms M ck cn sh σ pc L (.int x :: st) Q := by
  subst he
  intro p e R s m args below meth c H locs Z D dA ad0 ad A N0 ls C Wd hl ho hr
  obtain ⟨⟨lv, h1, h2⟩, h3⟩ := hl
  exact lv_istore C.1.1 C.1.2.1 hd h1 hn rfl (fun ls' h' => k p e R s m args below meth c H locs Z D dA ad0 ad A N0 ls' C Wd (lt_lv.store (v := .int x) h2 h3 trivial h') ho.2 hr)
theorem g_astore_n {k0 : Fin 4} {i : Nat} {x : Nat} {pc2 : Nat} (hd : decode M.2.1 pc = .ok (.astore_n k0, 1)) (hi : (k0 : Nat) = i) (hn : i < M.2.2.1) (he : pc + 1 = pc2) (k : lt_G l d mc ms M ck cn sh σ pc2 (L.set i (some (.ref x))) st Q) : lt_G l d mc ms M ck cn sh σ pc L (.ref x :: st) Q := by
  subst he
  intro p e R s m args below meth c H locs Z D dA ad0 ad A N0 ls C Wd hl ho hr
  obtain ⟨⟨lv, h1, h2⟩, h3⟩ := hl
  exact lv_astore_n C.1.1 C.1.2.1 hd hi h1 hn rfl (fun ls' h' => k p e R s m args below meth c H locs Z D dA ad0 ad A N0 ls' C Wd (lt_lv.store (v := .ref x) h2 h3 ho.1 h') ho.2 hr)
theorem g_astore {i : Nat} {x : Nat} {pc2 : Nat} (hd : decode M.2.1 pc = .ok (.astore i, 2)) (hn : i < M.2.2.1) (he : pc + 2 = pc2) (k : lt_G l d mc ms M ck cn sh σ pc2 (L.set i (some (.ref x))) st Q) : lt_G l d mc ms M ck cn sh σ pc L (.ref x :: st) Q := by
  subst he
  intro p e R s m args below meth c H locs Z D dA ad0 ad A N0 ls C Wd hl ho hr
  obtain ⟨⟨lv, h1, h2⟩, h3⟩ := hl
  exact lv_astore C.1.1 C.1.2.1 hd h1 hn rfl (fun ls' h' => k p e R s m args below meth c H locs Z D dA ad0 ad A N0 ls' C Wd (lt_lv.store (v := .ref x) h2 h3 ho.1 h') ho.2 hr)
theorem g_iinc {i : Nat} {n : Int} {x v : Int32} {pc2 : Nat} (hd : decode M.2.1 pc = .ok (.iinc i n, 3)) (hL : L[i]? = some (some (.int x))) (hv : x + Int32.ofInt n = v) (hn : i < M.2.2.1) (he : pc + 3 = pc2) (k : lt_G l d mc ms M ck cn sh σ pc2 (L.set i (some (.int v))) st Q) : lt_G l d mc ms M ck cn sh σ pc L st Q := by
  subst he
  intro p e R s m args below meth c H locs Z D dA ad0 ad A N0 ls C Wd hl ho hr
  obtain ⟨⟨lv, h1, h2⟩, h3⟩ := hl
  obtain ⟨k9, hk9⟩ := List.getElem?_of_mem (h2 i _ hL)
  exact lv_iinc C.1.1 C.1.2.1 hd h1 hk9 hv hn rfl (fun ls' h' => k p e R s m args below meth c H locs Z D dA ad0 ad A N0 ls' C Wd (lt_lv.store (v := .int v) h2 h3 trivial h') ho hr)
theorem g_il0 {x : Int32} {pc2 : Nat} (hd : decode M.2.1 pc = .ok (.iload_n 0, 1)) (he : pc + 1 = pc2) (k : lt_G l d mc ms M ck cn sh σ pc2 (some (.int x) :: L) (.int x :: st) Q) : lt_G l d mc ms M ck cn sh σ pc (some (.int x) :: L) st Q := g_iload_n (i := 0) hd rfl rfl he k
theorem g_al0 {x : Nat} {pc2 : Nat} (hd : decode M.2.1 pc = .ok (.aload_n 0, 1)) (he : pc + 1 = pc2) (k : lt_G l d mc ms M ck cn sh σ pc2 (some (.ref x) :: L) (.ref x :: st) Q) : lt_G l d mc ms M ck cn sh σ pc (some (.ref x) :: L) st Q := g_aload_n (i := 0) hd rfl rfl he k
theorem g_is0 {a0 : Option Value}{x : Int32} {pc2 : Nat} (hd : decode M.2.1 pc = .ok (.istore_n 0, 1)) (hn : 0 < M.2.2.1) (he : pc + 1 = pc2) (k : lt_G l d mc ms M ck cn sh σ pc2 (some (.int x) :: L) st Q) : lt_G l d mc ms M ck cn sh σ pc (a0 :: L) (.int x :: st) Q := g_istore_n (i := 0) hd rfl hn he k
theorem g_as0 {a0 : Option Value}{x : Nat} {pc2 : Nat} (hd : decode M.2.1 pc = .ok (.astore_n 0, 1)) (hn : 0 < M.2.2.1) (he : pc + 1 = pc2) (k : lt_G l d mc ms M ck cn sh σ pc2 (some (.ref x) :: L) st Q) : lt_G l d mc ms M ck cn sh σ pc (a0 :: L) (.ref x :: st) Q := g_astore_n (i := 0) hd rfl hn he k
theorem g_in0 {n : Int} {x v : Int32} {pc2 : Nat} (hd : decode M.2.1 pc = .ok (.iinc 0 n, 3)) (hv : x + Int32.ofInt n = v) (hn : 0 < M.2.2.1) (he : pc + 3 = pc2) (k : lt_G l d mc ms M ck cn sh σ pc2 (some (.int v) :: L) st Q) : lt_G l d mc ms M ck cn sh σ pc (some (.int x) :: L) st Q := g_iinc (i := 0) hd rfl hv hn he k
theorem g_il1 {a0 : Option Value} {x : Int32} {pc2 : Nat} (hd : decode M.2.1 pc = .ok (.iload_n 1, 1)) (he : pc + 1 = pc2) (k : lt_G l d mc ms M ck cn sh σ pc2 (a0 :: some (.int x) :: L) (.int x :: st) Q) : lt_G l d mc ms M ck cn sh σ pc (a0 :: some (.int x) :: L) st Q := g_iload_n (i := 1) hd rfl rfl he k
theorem g_al1 {a0 : Option Value} {x : Nat} {pc2 : Nat} (hd : decode M.2.1 pc = .ok (.aload_n 1, 1)) (he : pc + 1 = pc2) (k : lt_G l d mc ms M ck cn sh σ pc2 (a0 :: some (.ref x) :: L) (.ref x :: st) Q) : lt_G l d mc ms M ck cn sh σ pc (a0 :: some (.ref x) :: L) st Q := g_aload_n (i := 1) hd rfl rfl he k
theorem g_is1 {a0 a1 : Option Value}{x : Int32} {pc2 : Nat} (hd : decode M.2.1 pc = .ok (.istore_n 1, 1)) (hn : 1 < M.2.2.1) (he : pc + 1 = pc2) (k : lt_G l d mc ms M ck cn sh σ pc2 (a0 :: some (.int x) :: L) st Q) : lt_G l d mc ms M ck cn sh σ pc (a0 :: a1 :: L) (.int x :: st) Q := g_istore_n (i := 1) hd rfl hn he k
theorem g_as1 {a0 a1 : Option Value}{x : Nat} {pc2 : Nat} (hd : decode M.2.1 pc = .ok (.astore_n 1, 1)) (hn : 1 < M.2.2.1) (he : pc + 1 = pc2) (k : lt_G l d mc ms M ck cn sh σ pc2 (a0 :: some (.ref x) :: L) st Q) : lt_G l d mc ms M ck cn sh σ pc (a0 :: a1 :: L) (.ref x :: st) Q := g_astore_n (i := 1) hd rfl hn he k
theorem g_in1 {a0 : Option Value} {n : Int} {x v : Int32} {pc2 : Nat} (hd : decode M.2.1 pc = .ok (.iinc 1 n, 3)) (hv : x + Int32.ofInt n = v) (hn : 1 < M.2.2.1) (he : pc + 3 = pc2) (k : lt_G l d mc ms M ck cn sh σ pc2 (a0 :: some (.int v) :: L) st Q) : lt_G l d mc ms M ck cn sh σ pc (a0 :: some (.int x) :: L) st Q := g_iinc (i := 1) hd rfl hv hn he k
theorem g_il2 {a0 a1 : Option Value} {x : Int32} {pc2 : Nat} (hd : decode M.2.1 pc = .ok (.iload_n 2, 1)) (he : pc + 1 = pc2) (k : lt_G l d mc ms M ck cn sh σ pc2 (a0 :: a1 :: some (.int x) :: L) (.int x :: st) Q) : lt_G l d mc ms M ck cn sh σ pc (a0 :: a1 :: some (.int x) :: L) st Q := g_iload_n (i := 2) hd rfl rfl he k
theorem g_al2 {a0 a1 : Option Value} {x : Nat} {pc2 : Nat} (hd : decode M.2.1 pc = .ok (.aload_n 2, 1)) (he : pc + 1 = pc2) (k : lt_G l d mc ms M ck cn sh σ pc2 (a0 :: a1 :: some (.ref x) :: L) (.ref x :: st) Q) : lt_G l d mc ms M ck cn sh σ pc (a0 :: a1 :: some (.ref x) :: L) st Q := g_aload_n (i := 2) hd rfl rfl he k
theorem g_is2 {a0 a1 a2 : Option Value}{x : Int32} {pc2 : Nat} (hd : decode M.2.1 pc = .ok (.istore_n 2, 1)) (hn : 2 < M.2.2.1) (he : pc + 1 = pc2) (k : lt_G l d mc ms M ck cn sh σ pc2 (a0 :: a1 :: some (.int x) :: L) st Q) : lt_G l d mc ms M ck cn sh σ pc (a0 :: a1 :: a2 :: L) (.int x :: st) Q := g_istore_n (i := 2) hd rfl hn he k
theorem g_as2 {a0 a1 a2 : Option Value}{x : Nat} {pc2 : Nat} (hd : decode M.2.1 pc = .ok (.astore_n 2, 1)) (hn : 2 < M.2.2.1) (he : pc + 1 = pc2) (k : lt_G l d mc ms M ck cn sh σ pc2 (a0 :: a1 :: some (.ref x) :: L) st Q) : lt_G l d mc ms M ck cn sh σ pc (a0 :: a1 :: a2 :: L) (.ref x :: st) Q := g_astore_n (i := 2) hd rfl hn he k
theorem g_in2 {a0 a1 : Option Value} {n : Int} {x v : Int32} {pc2 : Nat} (hd : decode M.2.1 pc = .ok (.iinc 2 n, 3)) (hv : x + Int32.ofInt n = v) (hn : 2 < M.2.2.1) (he : pc + 3 = pc2) (k : lt_G l d mc ms M ck cn sh σ pc2 (a0 :: a1 :: some (.int v) :: L) st Q) : lt_G l d mc ms M ck cn sh σ pc (a0 :: a1 :: some (.int x) :: L) st Q := g_iinc (i := 2) hd rfl hv hn he k
theorem g_il3 {a0 a1 a2 : Option Value} {x : Int32} {pc2 : Nat} (hd : decode M.2.1 pc = .ok (.iload_n 3, 1)) (he : pc + 1 = pc2) (k : lt_G l d mc ms M ck cn sh σ pc2 (a0 :: a1 :: a2 :: some (.int x) :: L) (.int x :: st) Q) : lt_G l d mc ms M ck cn sh σ pc (a0 :: a1 :: a2 :: some (.int x) :: L) st Q := g_iload_n (i := 3) hd rfl rfl he k
theorem g_al3 {a0 a1 a2 : Option Value} {x : Nat} {pc2 : Nat} (hd : decode M.2.1 pc = .ok (.aload_n 3, 1)) (he : pc + 1 = pc2) (k : lt_G l d mc ms M ck cn sh σ pc2 (a0 :: a1 :: a2 :: some (.ref x) :: L) (.ref x :: st) Q) : lt_G l d mc ms M ck cn sh σ pc (a0 :: a1 :: a2 :: some (.ref x) :: L) st Q := g_aload_n (i := 3) hd rfl rfl he k
theorem g_is3 {a0 a1 a2 a3 : Option Value}{x : Int32} {pc2 : Nat} (hd : decode M.2.1 pc = .ok (.istore_n 3, 1)) (hn : 3 < M.2.2.1) (he : pc + 1 = pc2) (k : lt_G l d mc ms M ck cn sh σ pc2 (a0 :: a1 :: a2 :: some (.int x) :: L) st Q) : lt_G l d mc ms M ck cn sh σ pc (a0 :: a1 :: a2 :: a3 :: L) (.int x :: st) Q := g_istore_n (i := 3) hd rfl hn he k
theorem g_as3 {a0 a1 a2 a3 : Option Value}{x : Nat} {pc2 : Nat} (hd : decode M.2.1 pc = .ok (.astore_n 3, 1)) (hn : 3 < M.2.2.1) (he : pc + 1 = pc2) (k : lt_G l d mc ms M ck cn sh σ pc2 (a0 :: a1 :: a2 :: some (.ref x) :: L) st Q) : lt_G l d mc ms M ck cn sh σ pc (a0 :: a1 :: a2 :: a3 :: L) (.ref x :: st) Q := g_astore_n (i := 3) hd rfl hn he k
theorem g_in3 {a0 a1 a2 : Option Value} {n : Int} {x v : Int32} {pc2 : Nat} (hd : decode M.2.1 pc = .ok (.iinc 3 n, 3)) (hv : x + Int32.ofInt n = v) (hn : 3 < M.2.2.1) (he : pc + 3 = pc2) (k : lt_G l d mc ms M ck cn sh σ pc2 (a0 :: a1 :: a2 :: some (.int v) :: L) st Q) : lt_G l d mc ms M ck cn sh σ pc (a0 :: a1 :: a2 :: some (.int x) :: L) st Q := g_iinc (i := 3) hd rfl hv hn he k
theorem g_il4 {a0 a1 a2 a3 : Option Value} {x : Int32} {pc2 : Nat} (hd : decode M.2.1 pc = .ok (.iload 4, 2)) (he : pc + 2 = pc2) (k : lt_G l d mc ms M ck cn sh σ pc2 (a0 :: a1 :: a2 :: a3 :: some (.int x) :: L) (.int x :: st) Q) : lt_G l d mc ms M ck cn sh σ pc (a0 :: a1 :: a2 :: a3 :: some (.int x) :: L) st Q := g_iload (i := 4) hd rfl he k
theorem g_is4 {a0 a1 a2 a3 a4 : Option Value}{x : Int32} {pc2 : Nat} (hd : decode M.2.1 pc = .ok (.istore 4, 2)) (hn : 4 < M.2.2.1) (he : pc + 2 = pc2) (k : lt_G l d mc ms M ck cn sh σ pc2 (a0 :: a1 :: a2 :: a3 :: some (.int x) :: L) st Q) : lt_G l d mc ms M ck cn sh σ pc (a0 :: a1 :: a2 :: a3 :: a4 :: L) (.int x :: st) Q := g_istore (i := 4) hd hn he k
theorem g_in4 {a0 a1 a2 a3 : Option Value} {n : Int} {x v : Int32} {pc2 : Nat} (hd : decode M.2.1 pc = .ok (.iinc 4 n, 3)) (hv : x + Int32.ofInt n = v) (hn : 4 < M.2.2.1) (he : pc + 3 = pc2) (k : lt_G l d mc ms M ck cn sh σ pc2 (a0 :: a1 :: a2 :: a3 :: some (.int v) :: L) st Q) : lt_G l d mc ms M ck cn sh σ pc (a0 :: a1 :: a2 :: a3 :: some (.int x) :: L) st Q := g_iinc (i := 4) hd rfl hv hn he k
theorem g_il5 {a0 a1 a2 a3 a4 : Option Value} {x : Int32} {pc2 : Nat} (hd : decode M.2.1 pc = .ok (.iload 5, 2)) (he : pc + 2 = pc2) (k : lt_G l d mc ms M ck cn sh σ pc2 (a0 :: a1 :: a2 :: a3 :: a4 :: some (.int x) :: L) (.int x :: st) Q) : lt_G l d mc ms M ck cn sh σ pc (a0 :: a1 :: a2 :: a3 :: a4 :: some (.int x) :: L) st Q := g_iload (i := 5) hd rfl he k
theorem g_is5 {a0 a1 a2 a3 a4 a5 : Option Value}{x : Int32} {pc2 : Nat} (hd : decode M.2.1 pc = .ok (.istore 5, 2)) (hn : 5 < M.2.2.1) (he : pc + 2 = pc2) (k : lt_G l d mc ms M ck cn sh σ pc2 (a0 :: a1 :: a2 :: a3 :: a4 :: some (.int x) :: L) st Q) : lt_G l d mc ms M ck cn sh σ pc (a0 :: a1 :: a2 :: a3 :: a4 :: a5 :: L) (.int x :: st) Q := g_istore (i := 5) hd hn he k
theorem g_in5 {a0 a1 a2 a3 a4 : Option Value} {n : Int} {x v : Int32} {pc2 : Nat} (hd : decode M.2.1 pc = .ok (.iinc 5 n, 3)) (hv : x + Int32.ofInt n = v) (hn : 5 < M.2.2.1) (he : pc + 3 = pc2) (k : lt_G l d mc ms M ck cn sh σ pc2 (a0 :: a1 :: a2 :: a3 :: a4 :: some (.int v) :: L) st Q) : lt_G l d mc ms M ck cn sh σ pc (a0 :: a1 :: a2 :: a3 :: a4 :: some (.int x) :: L) st Q := g_iinc (i := 5) hd rfl hv hn he k
theorem g_il6 {a0 a1 a2 a3 a4 a5 : Option Value} {x : Int32} {pc2 : Nat} (hd : decode M.2.1 pc = .ok (.iload 6, 2)) (he : pc + 2 = pc2) (k : lt_G l d mc ms M ck cn sh σ pc2 (a0 :: a1 :: a2 :: a3 :: a4 :: a5 :: some (.int x) :: L) (.int x :: st) Q) : lt_G l d mc ms M ck cn sh σ pc (a0 :: a1 :: a2 :: a3 :: a4 :: a5 :: some (.int x) :: L) st Q := g_iload (i := 6) hd rfl he k
theorem g_is6 {a0 a1 a2 a3 a4 a5 a6 : Option Value}{x : Int32} {pc2 : Nat} (hd : decode M.2.1 pc = .ok (.istore 6, 2)) (hn : 6 < M.2.2.1) (he : pc + 2 = pc2) (k : lt_G l d mc ms M ck cn sh σ pc2 (a0 :: a1 :: a2 :: a3 :: a4 :: a5 :: some (.int x) :: L) st Q) : lt_G l d mc ms M ck cn sh σ pc (a0 :: a1 :: a2 :: a3 :: a4 :: a5 :: a6 :: L) (.int x :: st) Q := g_istore (i := 6) hd hn he k
theorem g_in6 {a0 a1 a2 a3 a4 a5 : Option Value} {n : Int} {x v : Int32} {pc2 : Nat} (hd : decode M.2.1 pc = .ok (.iinc 6 n, 3)) (hv : x + Int32.ofInt n = v) (hn : 6 < M.2.2.1) (he : pc + 3 = pc2) (k : lt_G l d mc ms M ck cn sh σ pc2 (a0 :: a1 :: a2 :: a3 :: a4 :: a5 :: some (.int v) :: L) st Q) : lt_G l d mc ms M ck cn sh σ pc (a0 :: a1 :: a2 :: a3 :: a4 :: a5 :: some (.int x) :: L) st Q := g_iinc (i := 6) hd rfl hv hn he k
theorem g_il7 {a0 a1 a2 a3 a4 a5 a6 : Option Value} {x : Int32} {pc2 : Nat} (hd : decode M.2.1 pc = .ok (.iload 7, 2)) (he : pc + 2 = pc2) (k : lt_G l d mc ms M ck cn sh σ pc2 (a0 :: a1 :: a2 :: a3 :: a4 :: a5 :: a6 :: some (.int x) :: L) (.int x :: st) Q) : lt_G l d mc ms M ck cn sh σ pc (a0 :: a1 :: a2 :: a3 :: a4 :: a5 :: a6 :: some (.int x) :: L) st Q := g_iload (i := 7) hd rfl he k
theorem g_is7 {a0 a1 a2 a3 a4 a5 a6 a7 : Option Value}{x : Int32} {pc2 : Nat} (hd : decode M.2.1 pc = .ok (.istore 7, 2)) (hn : 7 < M.2.2.1) (he : pc + 2 = pc2) (k : lt_G l d mc ms M ck cn sh σ pc2 (a0 :: a1 :: a2 :: a3 :: a4 :: a5 :: a6 :: some (.int x) :: L) st Q) : lt_G l d mc ms M ck cn sh σ pc (a0 :: a1 :: a2 :: a3 :: a4 :: a5 :: a6 :: a7 :: L) (.int x :: st) Q := g_istore (i := 7) hd hn he k
theorem g_in7 {a0 a1 a2 a3 a4 a5 a6 : Option Value} {n : Int} {x v : Int32} {pc2 : Nat} (hd : decode M.2.1 pc = .ok (.iinc 7 n, 3)) (hv : x + Int32.ofInt n = v) (hn : 7 < M.2.2.1) (he : pc + 3 = pc2) (k : lt_G l d mc ms M ck cn sh σ pc2 (a0 :: a1 :: a2 :: a3 :: a4 :: a5 :: a6 :: some (.int v) :: L) st Q) : lt_G l d mc ms M ck cn sh σ pc (a0 :: a1 :: a2 :: a3 :: a4 :: a5 :: a6 :: some (.int x) :: L) st Q := g_iinc (i := 7) hd rfl hv hn he k
theorem g_il8 {a0 a1 a2 a3 a4 a5 a6 a7 : Option Value} {x : Int32} {pc2 : Nat} (hd : decode M.2.1 pc = .ok (.iload 8, 2)) (he : pc + 2 = pc2) (k : lt_G l d mc ms M ck cn sh σ pc2 (a0 :: a1 :: a2 :: a3 :: a4 :: a5 :: a6 :: a7 :: some (.int x) :: L) (.int x :: st) Q) : lt_G l d mc ms M ck cn sh σ pc (a0 :: a1 :: a2 :: a3 :: a4 :: a5 :: a6 :: a7 :: some (.int x) :: L) st Q := g_iload (i := 8) hd rfl he k
theorem g_is8 {a0 a1 a2 a3 a4 a5 a6 a7 a8 : Option Value}{x : Int32} {pc2 : Nat} (hd : decode M.2.1 pc = .ok (.istore 8, 2)) (hn : 8 < M.2.2.1) (he : pc + 2 = pc2) (k : lt_G l d mc ms M ck cn sh σ pc2 (a0 :: a1 :: a2 :: a3 :: a4 :: a5 :: a6 :: a7 :: some (.int x) :: L) st Q) : lt_G l d mc ms M ck cn sh σ pc (a0 :: a1 :: a2 :: a3 :: a4 :: a5 :: a6 :: a7 :: a8 :: L) (.int x :: st) Q := g_istore (i := 8) hd hn he k
theorem g_in8 {a0 a1 a2 a3 a4 a5 a6 a7 : Option Value} {n : Int} {x v : Int32} {pc2 : Nat} (hd : decode M.2.1 pc = .ok (.iinc 8 n, 3)) (hv : x + Int32.ofInt n = v) (hn : 8 < M.2.2.1) (he : pc + 3 = pc2) (k : lt_G l d mc ms M ck cn sh σ pc2 (a0 :: a1 :: a2 :: a3 :: a4 :: a5 :: a6 :: a7 :: some (.int v) :: L) st Q) : lt_G l d mc ms M ck cn sh σ pc (a0 :: a1 :: a2 :: a3 :: a4 :: a5 :: a6 :: a7 :: some (.int x) :: L) st Q := g_iinc (i := 8) hd rfl hv hn he k
theorem g_il9 {a0 a1 a2 a3 a4 a5 a6 a7 a8 : Option Value} {x : Int32} {pc2 : Nat} (hd : decode M.2.1 pc = .ok (.iload 9, 2)) (he : pc + 2 = pc2) (k : lt_G l d mc ms M ck cn sh σ pc2 (a0 :: a1 :: a2 :: a3 :: a4 :: a5 :: a6 :: a7 :: a8 :: some (.int x) :: L) (.int x :: st) Q) : lt_G l d mc ms M ck cn sh σ pc (a0 :: a1 :: a2 :: a3 :: a4 :: a5 :: a6 :: a7 :: a8 :: some (.int x) :: L) st Q := g_iload (i := 9) hd rfl he k
theorem g_is9 {a0 a1 a2 a3 a4 a5 a6 a7 a8 a9 : Option Value}{x : Int32} {pc2 : Nat} (hd : decode M.2.1 pc = .ok (.istore 9, 2)) (hn : 9 < M.2.2.1) (he : pc + 2 = pc2) (k : lt_G l d mc ms M ck cn sh σ pc2 (a0 :: a1 :: a2 :: a3 :: a4 :: a5 :: a6 :: a7 :: a8 :: some (.int x) :: L) st Q) : lt_G l d mc ms M ck cn sh σ pc (a0 :: a1 :: a2 :: a3 :: a4 :: a5 :: a6 :: a7 :: a8 :: a9 :: L) (.int x :: st) Q := g_istore (i := 9) hd hn he k
theorem g_in9 {a0 a1 a2 a3 a4 a5 a6 a7 a8 : Option Value} {n : Int} {x v : Int32} {pc2 : Nat} (hd : decode M.2.1 pc = .ok (.iinc 9 n, 3)) (hv : x + Int32.ofInt n = v) (hn : 9 < M.2.2.1) (he : pc + 3 = pc2) (k : lt_G l d mc ms M ck cn sh σ pc2 (a0 :: a1 :: a2 :: a3 :: a4 :: a5 :: a6 :: a7 :: a8 :: some (.int v) :: L) st Q) : lt_G l d mc ms M ck cn sh σ pc (a0 :: a1 :: a2 :: a3 :: a4 :: a5 :: a6 :: a7 :: a8 :: some (.int x) :: L) st Q := g_iinc (i := 9) hd rfl hv hn he k
theorem g_il10 {a0 a1 a2 a3 a4 a5 a6 a7 a8 a9 : Option Value} {x : Int32} {pc2 : Nat} (hd : decode M.2.1 pc = .ok (.iload 10, 2)) (he : pc + 2 = pc2) (k : lt_G l d mc ms M ck cn sh σ pc2 (a0 :: a1 :: a2 :: a3 :: a4 :: a5 :: a6 :: a7 :: a8 :: a9 :: some (.int x) :: L) (.int x :: st) Q) : lt_G l d mc ms M ck cn sh σ pc (a0 :: a1 :: a2 :: a3 :: a4 :: a5 :: a6 :: a7 :: a8 :: a9 :: some (.int x) :: L) st Q := g_iload (i := 10) hd rfl he k
theorem g_is10 {a0 a1 a2 a3 a4 a5 a6 a7 a8 a9 a10 : Option Value}{x : Int32} {pc2 : Nat} (hd : decode M.2.1 pc = .ok (.istore 10, 2)) (hn : 10 < M.2.2.1) (he : pc + 2 = pc2) (k : lt_G l d mc ms M ck cn sh σ pc2 (a0 :: a1 :: a2 :: a3 :: a4 :: a5 :: a6 :: a7 :: a8 :: a9 :: some (.int x) :: L) st Q) : lt_G l d mc ms M ck cn sh σ pc (a0 :: a1 :: a2 :: a3 :: a4 :: a5 :: a6 :: a7 :: a8 :: a9 :: a10 :: L) (.int x :: st) Q := g_istore (i := 10) hd hn he k
theorem g_in10 {a0 a1 a2 a3 a4 a5 a6 a7 a8 a9 : Option Value} {n : Int} {x v : Int32} {pc2 : Nat} (hd : decode M.2.1 pc = .ok (.iinc 10 n, 3)) (hv : x + Int32.ofInt n = v) (hn : 10 < M.2.2.1) (he : pc + 3 = pc2) (k : lt_G l d mc ms M ck cn sh σ pc2 (a0 :: a1 :: a2 :: a3 :: a4 :: a5 :: a6 :: a7 :: a8 :: a9 :: some (.int v) :: L) st Q) : lt_G l d mc ms M ck cn sh σ pc (a0 :: a1 :: a2 :: a3 :: a4 :: a5 :: a6 :: a7 :: a8 :: a9 :: some (.int x) :: L) st Q := g_iinc (i := 10) hd rfl hv hn he k
theorem g_il11 {a0 a1 a2 a3 a4 a5 a6 a7 a8 a9 a10 : Option Value} {x : Int32} {pc2 : Nat} (hd : decode M.2.1 pc = .ok (.iload 11, 2)) (he : pc + 2 = pc2) (k : lt_G l d mc ms M ck cn sh σ pc2 (a0 :: a1 :: a2 :: a3 :: a4 :: a5 :: a6 :: a7 :: a8 :: a9 :: a10 :: some (.int x) :: L) (.int x :: st) Q) : lt_G l d mc ms M ck cn sh σ pc (a0 :: a1 :: a2 :: a3 :: a4 :: a5 :: a6 :: a7 :: a8 :: a9 :: a10 :: some (.int x) :: L) st Q := g_iload (i := 11) hd rfl he k
theorem g_is11 {a0 a1 a2 a3 a4 a5 a6 a7 a8 a9 a10 a11 : Option Value}{x : Int32} {pc2 : Nat} (hd : decode M.2.1 pc = .ok (.istore 11, 2)) (hn : 11 < M.2.2.1) (he : pc + 2 = pc2) (k : lt_G l d mc ms M ck cn sh σ pc2 (a0 :: a1 :: a2 :: a3 :: a4 :: a5 :: a6 :: a7 :: a8 :: a9 :: a10 :: some (.int x) :: L) st Q) : lt_G l d mc ms M ck cn sh σ pc (a0 :: a1 :: a2 :: a3 :: a4 :: a5 :: a6 :: a7 :: a8 :: a9 :: a10 :: a11 :: L) (.int x :: st) Q := g_istore (i := 11) hd hn he k
theorem g_in11 {a0 a1 a2 a3 a4 a5 a6 a7 a8 a9 a10 : Option Value} {n : Int} {x v : Int32} {pc2 : Nat} (hd : decode M.2.1 pc = .ok (.iinc 11 n, 3)) (hv : x + Int32.ofInt n = v) (hn : 11 < M.2.2.1) (he : pc + 3 = pc2) (k : lt_G l d mc ms M ck cn sh σ pc2 (a0 :: a1 :: a2 :: a3 :: a4 :: a5 :: a6 :: a7 :: a8 :: a9 :: a10 :: some (.int v) :: L) st Q) : lt_G l d mc ms M ck cn sh σ pc (a0 :: a1 :: a2 :: a3 :: a4 :: a5 :: a6 :: a7 :: a8 :: a9 :: a10 :: some (.int x) :: L) st Q := g_iinc (i := 11) hd rfl hv hn he k
theorem g_il12 {a0 a1 a2 a3 a4 a5 a6 a7 a8 a9 a10 a11 : Option Value} {x : Int32} {pc2 : Nat} (hd : decode M.2.1 pc = .ok (.iload 12, 2)) (he : pc + 2 = pc2) (k : lt_G l d mc ms M ck cn sh σ pc2 (a0 :: a1 :: a2 :: a3 :: a4 :: a5 :: a6 :: a7 :: a8 :: a9 :: a10 :: a11 :: some (.int x) :: L) (.int x :: st) Q) : lt_G l d mc ms M ck cn sh σ pc (a0 :: a1 :: a2 :: a3 :: a4 :: a5 :: a6 :: a7 :: a8 :: a9 :: a10 :: a11 :: some (.int x) :: L) st Q := g_iload (i := 12) hd rfl he k
theorem g_is12 {a0 a1 a2 a3 a4 a5 a6 a7 a8 a9 a10 a11 a12 : Option Value}{x : Int32} {pc2 : Nat} (hd : decode M.2.1 pc = .ok (.istore 12, 2)) (hn : 12 < M.2.2.1) (he : pc + 2 = pc2) (k : lt_G l d mc ms M ck cn sh σ pc2 (a0 :: a1 :: a2 :: a3 :: a4 :: a5 :: a6 :: a7 :: a8 :: a9 :: a10 :: a11 :: some (.int x) :: L) st Q) : lt_G l d mc ms M ck cn sh σ pc (a0 :: a1 :: a2 :: a3 :: a4 :: a5 :: a6 :: a7 :: a8 :: a9 :: a10 :: a11 :: a12 :: L) (.int x :: st) Q := g_istore (i := 12) hd hn he k
theorem g_in12 {a0 a1 a2 a3 a4 a5 a6 a7 a8 a9 a10 a11 : Option Value} {n : Int} {x v : Int32} {pc2 : Nat} (hd : decode M.2.1 pc = .ok (.iinc 12 n, 3)) (hv : x + Int32.ofInt n = v) (hn : 12 < M.2.2.1) (he : pc + 3 = pc2) (k : lt_G l d mc ms M ck cn sh σ pc2 (a0 :: a1 :: a2 :: a3 :: a4 :: a5 :: a6 :: a7 :: a8 :: a9 :: a10 :: a11 :: some (.int v) :: L) st Q) : lt_G l d mc ms M ck cn sh σ pc (a0 :: a1 :: a2 :: a3 :: a4 :: a5 :: a6 :: a7 :: a8 :: a9 :: a10 :: a11 :: some (.int x) :: L) st Q := g_iinc (i := 12) hd rfl hv hn he k
theorem g_ret (hd : decode M.2.1 pc = .ok (.return_, 1)) (hm : M.2.2.2 = none) (hc : ck ≤ mc) (hs : cn ≤ ms) (k : Q none sh σ) : lt_G l d mc ms M ck cn sh σ pc L [] Q := by
  intro p e R s m args below meth c H locs Z D dA ad0 ad A N0 ls C Wd hl ho hr
  exact W.widen hc hs (hr none sh σ ad H locs pc ls k Wd ⟨hm, hd⟩)
theorem g_iret {x : Int32} (hd : decode M.2.1 pc = .ok (.ireturn, 1)) (hm : M.2.2.2 = some .int) (hc : ck ≤ mc) (hs : cn ≤ ms) (k : Q (some x) sh σ) : lt_G l d mc ms M ck cn sh σ pc L [.int x] Q := by
  intro p e R s m args below meth c H locs Z D dA ad0 ad A N0 ls C Wd hl ho hr
  exact W.widen hc hs (hr (some x) sh σ ad H locs pc ls k Wd ⟨.int, hm, rfl, hd⟩)
theorem g_zret {x : Int32} {ty : FieldType} (hd : decode M.2.1 pc = .ok (.ireturn, 1)) (hm : M.2.2.2 = some ty) (hz : narrow ty (.int x) = .int x) (hc : ck ≤ mc) (hs : cn ≤ ms) (k : Q (some x) sh σ) : lt_G l d mc ms M ck cn sh σ pc L [.int x] Q := by
  intro p e R s m args below meth c H locs Z D dA ad0 ad A N0 ls C Wd hl ho hr
  exact W.widen hc hs (hr (some x) sh σ ad H locs pc ls k Wd ⟨ty, hm, hz, hd⟩)
theorem g_tableOut {dflt lo hi : Int} {offs : Array Int} {len : Nat} {x : Int32} (tgt : Nat) (hd : decode M.2.1 pc = .ok (.tableswitch dflt lo hi offs, len)) (h : x.toInt < lo ∨ hi < x.toInt) (ht : (pc : Int) + dflt = (tgt : Int)) (k : lt_G l d mc ms M ck cn sh σ tgt L st Q) : lt_G l d mc ms M ck cn sh σ pc L (.int x :: st) Q := by
  intro p e R s m args below meth c H locs Z D dA ad0 ad A N0 ls C Wd hl ho hr
  exact lv_tableOut C.1.1 C.1.2.1 hd h ht (k p e R s m args below meth c H locs Z D dA ad0 ad A N0 ls C Wd hl ho.2 hr)
theorem g_tableIn {dflt lo hi : Int} {offs : Array Int} {len : Nat} {x : Int32} {off : Int} (tgt : Nat) (hd : decode M.2.1 pc = .ok (.tableswitch dflt lo hi offs, len)) (h1 : ¬ x.toInt < lo) (h2 : ¬ hi < x.toInt) (hf : offs[(x.toInt - lo).toNat]? = some off) (ht : (pc : Int) + off = (tgt : Int)) (k : lt_G l d mc ms M ck cn sh σ tgt L st Q) : lt_G l d mc ms M ck cn sh σ pc L (.int x :: st) Q := by
  intro p e R s m args below meth c H locs Z D dA ad0 ad A N0 ls C Wd hl ho hr
  exact lv_tableIn C.1.1 C.1.2.1 hd h1 h2 hf ht (k p e R s m args below meth c H locs Z D dA ad0 ad A N0 ls C Wd hl ho.2 hr)
theorem g_top {x y : Int32} (e : x = y) (k : lt_G l d mc ms M ck cn sh σ pc L (.int y :: st) Q) : lt_G l d mc ms M ck cn sh σ pc L (.int x :: st) Q := e ▸ k
end LT1
end
section
/-! rows for fields and arrays -/
def lt_at (sh : lt_H) (a : Nat) : Option lt_C := if a < 10 then none else sh[a - 10]?
theorem lt_at_get {sh : lt_H} {a : Nat} {c : lt_C} (h : lt_at sh a = some c) : ∃ i, a = 10 + i ∧ sh[i]? = some c := by
  unfold lt_at at h
  split at h
  · cases h
  · exact ⟨a - 10, by omega, h⟩
/-- what the tables say of a class -/
def lt_co (r : vw_C) : Prop := (∀ w ∈ u_ws r.1 r.2.1 r.2.2, w ∈ lt_tb) ∧ (∃ ty0 : Nat → FieldType, ∀ k, k < r.2.2 → parseFieldDescriptor (r.2.1 k).2.2.1 = some (ty0 k)) ∧ (∀ a, a < r.2.2 → ∀ b, b < r.2.2 → a ≠ b → (r.2.1 a).2.1 ≠ (r.2.1 b).2.1)
/-- a field's link: class 'own', place idx, the k-th field of class ci -/
def lt_fl (own : String) (idx ci k : Nat) : Prop := ∃ r : vw_C, vwCl[ci]? = some r ∧ lt_co r ∧ k < r.2.2 ∧ Cond.fieldLink own idx (r.2.1 k).1 (r.2.1 k).2.1 (r.2.1 k).2.2.1 ∈ lt_tb
/-- and what a store needs: the type, whether it is final (then in its own class's constructor) -/
def lt_fp (own : String) (ci k : Nat) (fin : Bool) (ty : FieldType) : Prop := ∀ r : vw_C, vwCl[ci]? = some r → parseFieldDescriptor (r.2.1 k).2.2.1 = some ty ∧ (r.2.1 k).2.2.2 = fin ∧ (fin = true → (r.2.1 k).1 = own)
section LT2
variable {l : lt_L} {d mc ms : Nat} {M : lt_M} {ck cn : Nat} {sh : lt_H} {σ : lt_S} {pc : Nat} {L : List (Option Value)} {st : List Value} {Q : lt_Q}
theorem g_geti {a idx ci k pc2 : Nat} {fs : List (Option Value)} (hs : lt_at sh a = some (.inr (.inr (ci, fs)))) (hf : fs[k]? = some none) (fl : lt_fl M.1.cls idx ci k) (hd : decode M.2.1 pc = .ok (.getfield idx, 3)) (he : pc + 3 = pc2) (kk : lt_G l d mc ms M ck cn sh σ pc2 L (.int (σ a k) :: st) Q) : lt_G l d mc ms M ck cn sh σ pc L (.ref a :: st) Q := by
  subst he
  obtain ⟨i, rfl, hi⟩ := lt_at_get hs
  intro p e R s m args below meth c H locs Z D dA ad0 ad A N0 ls C Wd hl ho hr
  obtain ⟨r, hc, ⟨hw, -, -⟩, hk, hlk⟩ := fl
  refine va_get (C := r.1) (T := r.2.1) (N := r.2.2) (ci := ci) (fs := lt_fs ad (σ (10 + i)) 0 fs) (v := .int (σ (10 + i) k)) C.1.1 C.1.2.1 C.1.2.2.2.2 hw C.1.2.2.2.1 C.2.2.2.2.1 Wd.2.2.2.1 i (by rw [lt_w_get, hi]; rfl) hc k hk (C.1.2.2.2.2 _ hlk) (fun _ h => h) (by rw [lt_fs_get, hf]; simp) hd ?_
  exact kk p e R s m args below meth c H locs Z D dA ad0 ad A N0 ls C Wd hl ⟨trivial, ho.2⟩ hr
theorem g_getr {a idx ci k pc2 : Nat} {fs : List (Option Value)} {v : Value} (hs : lt_at sh a = some (.inr (.inr (ci, fs)))) (hf : fs[k]? = some (some v)) (fl : lt_fl M.1.cls idx ci k) (hd : decode M.2.1 pc = .ok (.getfield idx, 3)) (he : pc + 3 = pc2) (kk : lt_G l d mc ms M ck cn sh σ pc2 L (v :: st) Q) : lt_G l d mc ms M ck cn sh σ pc L (.ref a :: st) Q := by
  subst he
  obtain ⟨i, rfl, hi⟩ := lt_at_get hs
  intro p e R s m args below meth c H locs Z D dA ad0 ad A N0 ls C Wd hl ho hr
  obtain ⟨r, hc, ⟨hw, -, -⟩, hk, hlk⟩ := fl
  refine va_get (C := r.1) (T := r.2.1) (N := r.2.2) (ci := ci) (fs := lt_fs ad (σ (10 + i)) 0 fs) (v := lt_tr ad v) C.1.1 C.1.2.1 C.1.2.2.2.2 hw C.1.2.2.2.1 C.2.2.2.2.1 Wd.2.2.2.1 i (by rw [lt_w_get, hi]; rfl) hc k hk (C.1.2.2.2.2 _ hlk) (fun _ h => h) (by rw [lt_fs_get, hf]; rfl) hd ?_
  exact kk p e R s m args below meth c H locs Z D dA ad0 ad A N0 ls C Wd hl ⟨Wd.2.2.1 i _ hi k v hf, ho.2⟩ hr
theorem lt_ur_w {dA : Nat → ClassId} {ad : Nat → Nat} {i : Nat} {c0 : lt_C} (f : Nat → Int32) (hi : sh[i]? = some c0) : (lt_w dA ad σ 10 sh).set i (ad (10 + i), lt_cell dA ad c0 f) = lt_w dA ad (lt_ur σ (10 + i) f) 10 sh := by
  rw [lt_w_set c0 f sh 10 i]
  have e : sh.set i c0 = sh := by
    apply List.ext_getElem?
    intro n
    by_cases hn : i = n
    · subst hn
      rw [List.getElem?_set_self (List.getElem?_eq_some_iff.mp hi).1, hi]
    · rw [List.getElem?_set_ne hn]
  rw [e]
  rfl
theorem lt_up_ur (σ : lt_S) (a k : Nat) (x : Int32) : lt_up σ a k x = lt_ur σ a (upd (σ a) k x) := rfl
theorem g_puti {a idx ci k pc2 : Nat} {fs : List (Option Value)} {x : Int32} {fin : Bool} (hs : lt_at sh a = some (.inr (.inr (ci, fs)))) (hf : fs[k]? = some none) (fl : lt_fl M.1.cls idx ci k) (fp : lt_fp M.1.cls ci k fin .int) (hm : fin = true → M.1.name = "<init>") (hd : decode M.2.1 pc = .ok (.putfield idx, 3)) (he : pc + 3 = pc2) (kk : lt_G l d mc ms M ck cn sh (lt_up σ a k x) pc2 L st Q) : lt_G l d mc ms M ck cn sh σ pc L (.int x :: .ref a :: st) Q := by
  subst he
  obtain ⟨i, rfl, hi⟩ := lt_at_get hs
  intro p e R s m args below meth c H locs Z D dA ad0 ad A N0 ls C Wd hl ho hr
  obtain ⟨r, hc, ⟨hw, ⟨ty0, hty⟩, hnm⟩, hk, hlk⟩ := fl
  obtain ⟨hp1, hp2, hp3⟩ := fp r hc
  have hcell : (lt_w dA ad σ 10 sh)[i]? = some (ad (10 + i), .inr (ci, lt_fs ad (σ (10 + i)) 0 fs)) := by rw [lt_w_get, hi]; rfl
  have hset : (lt_w dA ad σ 10 sh).set i (ad (10 + i), .inr (ci, (lt_fs ad (σ (10 + i)) 0 fs).set k (.int x))) = lt_w dA ad (lt_up σ (10 + i) k x) 10 sh := by
    rw [lt_fs_set ad (σ (10 + i)) x fs 0 k hf, Nat.zero_add]
    exact lt_ur_w (upd (σ (10 + i)) k x) hi
  have hl9 : k < (lt_fs ad (σ (10 + i)) 0 fs).length := by rw [lt_fs_len]; exact (List.getElem?_eq_some_iff.mp hf).1
  cases hfin : fin with
  | true =>
    refine va_putF (D := D) (C := r.1) (T := r.2.1) (N := r.2.2) (ci := ci) (v := .int x) (ty := .int) C.1.1 C.1.2.1 C.1.2.2.2.2 hw ty0 hty hnm C.1.2.2.2.1 C.2.2.2.2.1 Wd.2.2.2.1 Wd.2.2.2.2.1 Wd.2.2.2.2.2 i hcell hc k hk (C.1.2.2.2.2 _ hlk) (fun _ h => h) (hp2.trans hfin) (C.2.2.2.1 (hm hfin)) (hp3 hfin) hp1 rfl rfl hl9 hd (fun H1 locs1 hP hD hS => ?_)
    rw [hset] at hP hD
    exact kk p e R s m args below meth c H1 locs1 Z D dA ad0 ad A N0 ls C ⟨Wd.1, Wd.2.1, Wd.2.2.1, hP, hD, hS⟩ hl ho.2.2 hr
  | false =>
    refine va_put (D := D) (C := r.1) (T := r.2.1) (N := r.2.2) (ci := ci) (v := .int x) (ty := .int) C.1.1 C.1.2.1 C.1.2.2.2.2 hw ty0 hty hnm C.1.2.2.2.1 C.2.2.2.2.1 Wd.2.2.2.1 Wd.2.2.2.2.1 Wd.2.2.2.2.2 i hcell hc k hk (C.1.2.2.2.2 _ hlk) (fun _ h => h) (hp2.trans hfin) hp1 rfl rfl hl9 hd (fun H1 locs1 hP hD hS => ?_)
    rw [hset] at hP hD
    exact kk p e R s m args below meth c H1 locs1 Z D dA ad0 ad A N0 ls C ⟨Wd.1, Wd.2.1, Wd.2.2.1, hP, hD, hS⟩ hl ho.2.2 hr
/-- a reference into a final field, in a constructor: the shape changes -/
theorem g_putr {a b idx ci k pc2 : Nat} {fs : List (Option Value)} {ty : FieldType} {fin : Bool} (sh2 : lt_H) (hs : lt_at sh a = some (.inr (.inr (ci, fs)))) (hf : k < fs.length) (fl : lt_fl M.1.cls idx ci k) (fp : lt_fp M.1.cls ci k fin ty) (hty1 : ∀ q, narrow ty (.ref q) = .ref q) (hty2 : ∀ q, fits ty (.ref q) = true) (hfin : fin = true) (hm : M.1.name = "<init>") (h2 : sh.set (a - 10) (.inr (.inr (ci, fs.set k (some (.ref b))))) = sh2) (hd : decode M.2.1 pc = .ok (.putfield idx, 3)) (he : pc + 3 = pc2) (kk : lt_G l d mc ms M ck cn sh2 σ pc2 L st Q) : lt_G l d mc ms M ck cn sh σ pc L (.ref b :: .ref a :: st) Q := by
  subst he
  obtain ⟨i, rfl, hi⟩ := lt_at_get hs
  rw [show 10 + i - 10 = i by omega] at h2
  intro p e R s m args below meth c H locs Z D dA ad0 ad A N0 ls C Wd hl ho hr
  obtain ⟨r, hc, ⟨hw, ⟨ty0, hty⟩, hnm⟩, hk, hlk⟩ := fl
  obtain ⟨hp1, hp2, hp3⟩ := fp r hc
  have hcell : (lt_w dA ad σ 10 sh)[i]? = some (ad (10 + i), .inr (ci, lt_fs ad (σ (10 + i)) 0 fs)) := by rw [lt_w_get, hi]; rfl
  have hset : (lt_w dA ad σ 10 sh).set i (ad (10 + i), .inr (ci, (lt_fs ad (σ (10 + i)) 0 fs).set k (.ref (ad b)))) = lt_w dA ad σ 10 sh2 := by
    rw [show Value.ref (ad b) = lt_tr ad (.ref b) from rfl, lt_fs_setr ad (σ (10 + i)) (.ref b) fs 0 k]
    have := lt_w_set (dA := dA) (ad := ad) (σ := σ) (.inr (.inr (ci, fs.set k (some (.ref b))))) (σ (10 + i)) sh 10 i
    rw [h2] at this
    refine this.trans (lt_w_ext sh2 10 (fun b _ _ => ?_))
    by_cases hb : b = 10 + i
    · subst hb; exact if_pos rfl
    · exact if_neg hb
  have hl9 : k < (lt_fs ad (σ (10 + i)) 0 fs).length := by rw [lt_fs_len]; exact hf
  have hlen : sh2.length = sh.length := by rw [← h2, List.length_set]
  have hok : lt_hok (10 + sh2.length) sh2 := by
    intro j c0 hj
    rw [hlen]
    rw [← h2] at hj
    by_cases e9 : i = j
    · subst e9
      rw [List.getElem?_set_self (List.getElem?_eq_some_iff.mp hi).1] at hj
      cases hj
      intro k2 v hv
      by_cases ek : k = k2
      · subst ek
        rw [List.getElem?_set_self hf] at hv
        cases hv
        exact ho.1
      · rw [List.getElem?_set_ne ek] at hv
        exact Wd.2.2.1 i _ hi k2 v hv
    · rw [List.getElem?_set_ne e9] at hj
      exact Wd.2.2.1 j c0 hj
  refine va_putF (D := D) (C := r.1) (T := r.2.1) (N := r.2.2) (ci := ci) (v := .ref (ad b)) (ty := ty) C.1.1 C.1.2.1 C.1.2.2.2.2 hw ty0 hty hnm C.1.2.2.2.1 C.2.2.2.2.1 Wd.2.2.2.1 Wd.2.2.2.2.1 Wd.2.2.2.2.2 i hcell hc k hk (C.1.2.2.2.2 _ hlk) (fun _ h => h) (hp2.trans hfin) (C.2.2.2.1 hm) (hp3 hfin) hp1 (hty1 _) (hty2 _) hl9 hd (fun H1 locs1 hP hD hS => ?_)
  rw [hset] at hP hD
  exact kk p e R s m args below meth c H1 locs1 Z D dA ad0 ad A N0 ls C ⟨Wd.1, by rw [hlen]; exact Wd.2.1, hok, hP, hD, hS⟩ (by rw [hlen]; exact hl) (by rw [hlen]; exact ho.2.2) hr
/-! arrays -/
theorem g_iald {a n j pc2 : Nat} (hs : lt_at sh a = some (.inl (0, n))) (hj : j < n) (hn : n < 2 ^ 31) (hd : decode M.2.1 pc = .ok (.iaload, 1)) (he : pc + 1 = pc2) (kk : lt_G l d mc ms M ck cn sh σ pc2 L (.int (σ a j) :: st) Q) : lt_G l d mc ms M ck cn sh σ pc L (.int (nI j) :: .ref a :: st) Q := by
  subst he
  obtain ⟨i, rfl, hi⟩ := lt_at_get hs
  intro p e R s m args below meth c H locs Z D dA ad0 ad A N0 ls C Wd hl ho hr
  have hj9 : (nI j).toNatClampNeg = j := nI_clamp (by omega)
  refine va_iald C.1.1 C.1.2.1 C.2.2.2.2.1 Wd.2.2.2.1 i 0 (cA := dA 0) (n := n) (f := σ (10 + i)) (by rw [lt_w_get, hi]; rfl) rfl (vp_in_nI hj hn) hd ?_
  rw [hj9]
  exact kk p e R s m args below meth c H locs Z D dA ad0 ad A N0 ls C Wd hl ⟨trivial, ho.2.2⟩ hr
theorem g_cald {a n j pc2 : Nat} (hs : lt_at sh a = some (.inl (1, n))) (hj : j < n) (hn : n < 2 ^ 31) (hd : decode M.2.1 pc = .ok (.caload, 1)) (he : pc + 1 = pc2) (kk : lt_G l d mc ms M ck cn sh σ pc2 L (.int (σ a j) :: st) Q) : lt_G l d mc ms M ck cn sh σ pc L (.int (nI j) :: .ref a :: st) Q := by
  subst he
  obtain ⟨i, rfl, hi⟩ := lt_at_get hs
  intro p e R s m args below meth c H locs Z D dA ad0 ad A N0 ls C Wd hl ho hr
  have hj9 : (nI j).toNatClampNeg = j := nI_clamp (by omega)
  refine va_cald C.1.1 C.1.2.1 C.2.2.2.2.1 Wd.2.2.2.1 i 1 (cA := dA 1) (n := n) (f := σ (10 + i)) (by rw [lt_w_get, hi]; rfl) rfl (vp_in_nI hj hn) hd ?_
  rw [hj9]
  exact kk p e R s m args below meth c H locs Z D dA ad0 ad A N0 ls C Wd hl ⟨trivial, ho.2.2⟩ hr
theorem g_zald {a n j pc2 : Nat} (hs : lt_at sh a = some (.inl (2, n))) (hj : j < n) (hn : n < 2 ^ 31) (hd : decode M.2.1 pc = .ok (.baload, 1)) (he : pc + 1 = pc2) (kk : lt_G l d mc ms M ck cn sh σ pc2 L (.int (σ a j) :: st) Q) : lt_G l d mc ms M ck cn sh σ pc L (.int (nI j) :: .ref a :: st) Q := by
  subst he
  obtain ⟨i, rfl, hi⟩ := lt_at_get hs
  intro p e R s m args below meth c H locs Z D dA ad0 ad A N0 ls C Wd hl ho hr
  have hj9 : (nI j).toNatClampNeg = j := nI_clamp (by omega)
  refine va_zald C.1.1 C.1.2.1 C.2.2.2.2.1 Wd.2.2.2.1 i 2 (cA := dA 2) (n := n) (f := σ (10 + i)) (by rw [lt_w_get, hi]; rfl) rfl (vp_in_nI hj hn) hd ?_
  rw [hj9]
  exact kk p e R s m args below meth c H locs Z D dA ad0 ad A N0 ls C Wd hl ⟨trivial, ho.2.2⟩ hr
theorem g_aald {a j b pc2 : Nat} {rs : List (Option Nat)} (hs : lt_at sh a = some (.inr (.inl rs))) (hj : rs[j]? = some (some b)) (hn : rs.length < 2 ^ 31) (hd : decode M.2.1 pc = .ok (.aaload, 1)) (he : pc + 1 = pc2) (kk : lt_G l d mc ms M ck cn sh σ pc2 L (.ref b :: st) Q) : lt_G l d mc ms M ck cn sh σ pc L (.int (nI j) :: .ref a :: st) Q := by
  subst he
  obtain ⟨i, rfl, hi⟩ := lt_at_get hs
  intro p e R s m args below meth c H locs Z D dA ad0 ad A N0 ls C Wd hl ho hr
  have hjl : j < rs.length := (List.getElem?_eq_some_iff.mp hj).1
  have hj9 : (nI j).toNatClampNeg = j := nI_clamp (by omega)
  have hjd : rs.getD j none = some b := by rw [List.getD_eq_getElem?_getD, hj]; rfl
  refine va_aldq C.1.1 C.1.2.1 C.2.2.2.2.1 Wd.2.2.2.1 i 3 (cA := dA 3) (C := RX2) (n := rs.length) (f := fun k => (rs.getD k none).map ad) (by rw [lt_w_get, hi]; rfl) rfl (vp_in_nI hjl hn) hd ?_
  rw [hj9, hjd]
  exact kk p e R s m args below meth c H locs Z D dA ad0 ad A N0 ls C Wd hl ⟨Wd.2.2.1 i _ hi j b hjd, ho.2.2⟩ hr
theorem g_alen {a n t pc2 : Nat} {v : Int32} (hs : lt_at sh a = some (.inl (t, n))) (ht : t < 3) (hv : Int32.ofNat n = v) (hd : decode M.2.1 pc = .ok (.arraylength, 1)) (he : pc + 1 = pc2) (kk : lt_G l d mc ms M ck cn sh σ pc2 L (.int v :: st) Q) : lt_G l d mc ms M ck cn sh σ pc L (.ref a :: st) Q := by
  subst he
  obtain ⟨i, rfl, hi⟩ := lt_at_get hs
  intro p e R s m args below meth c H locs Z D dA ad0 ad A N0 ls C Wd hl ho hr
  obtain ⟨ty, hty⟩ : ∃ ty, (lt_tys dA)[t]? = some (dA t, ty) := by
    rcases (show t = 0 ∨ t = 1 ∨ t = 2 by omega) with rfl | rfl | rfl <;> exact ⟨_, rfl⟩
  refine va_alen C.1.1 C.1.2.1 C.2.2.2.2.1 Wd.2.2.2.1 i t (cA := dA t) (x := (n, .inl (σ (10 + i)))) (by rw [lt_w_get, hi]; rfl) hty hv hd ?_
  exact kk p e R s m args below meth c H locs Z D dA ad0 ad A N0 ls C Wd hl ⟨trivial, ho.2⟩ hr
theorem g_iast {a n j pc2 : Nat} {x : Int32} (hs : lt_at sh a = some (.inl (0, n))) (hj : j < n) (hn : n < 2 ^ 31) (hd : decode M.2.1 pc = .ok (.iastore, 1)) (he : pc + 1 = pc2) (kk : lt_G l d mc ms M ck cn sh (lt_up σ a j x) pc2 L st Q) : lt_G l d mc ms M ck cn sh σ pc L (.int x :: .int (nI j) :: .ref a :: st) Q := by
  subst he
  obtain ⟨i, rfl, hi⟩ := lt_at_get hs
  intro p e R s m args below meth c H locs Z D dA ad0 ad A N0 ls C Wd hl ho hr
  have hj9 : (nI j).toNatClampNeg = j := nI_clamp (by omega)
  refine va_iast C.1.1 C.1.2.1 C.2.2.2.2.1 Wd.2.2.2.1 Wd.2.2.2.2.1 Wd.2.2.2.2.2 i 0 (cA := dA 0) (n := n) (f := σ (10 + i)) (by rw [lt_w_get, hi]; rfl) rfl (vp_in_nI hj hn) hd (fun H1 locs1 hP hD hS => ?_)
  have hset : (lt_w dA ad σ 10 sh).set i (ad (10 + i), .inl (dA 0, n, .inl (upd (σ (10 + i)) (nI j).toNatClampNeg x))) = lt_w dA ad (lt_up σ (10 + i) j x) 10 sh := by
    rw [hj9]
    exact lt_ur_w (upd (σ (10 + i)) j x) hi
  rw [hset] at hP hD
  exact kk p e R s m args below meth c H1 locs1 Z D dA ad0 ad A N0 ls C ⟨Wd.1, Wd.2.1, Wd.2.2.1, hP, hD, hS⟩ hl ho.2.2.2 hr
theorem g_cast {a n j pc2 : Nat} {x y : Int32} (hs : lt_at sh a = some (.inl (1, n))) (hj : j < n) (hn : n < 2 ^ 31) (hy : vp_nar .char x = y) (hd : decode M.2.1 pc = .ok (.castore, 1)) (he : pc + 1 = pc2) (kk : lt_G l d mc ms M ck cn sh (lt_up σ a j y) pc2 L st Q) : lt_G l d mc ms M ck cn sh σ pc L (.int x :: .int (nI j) :: .ref a :: st) Q := by
  subst he
  obtain ⟨i, rfl, hi⟩ := lt_at_get hs
  intro p e R s m args below meth c H locs Z D dA ad0 ad A N0 ls C Wd hl ho hr
  have hj9 : (nI j).toNatClampNeg = j := nI_clamp (by omega)
  refine va_cast C.1.1 C.1.2.1 C.2.2.2.2.1 Wd.2.2.2.1 Wd.2.2.2.2.1 Wd.2.2.2.2.2 i 1 (cA := dA 1) (n := n) (f := σ (10 + i)) (by rw [lt_w_get, hi]; rfl) rfl (vp_in_nI hj hn) hd (fun H1 locs1 hP hD hS => ?_)
  have hset : (lt_w dA ad σ 10 sh).set i (ad (10 + i), .inl (dA 1, n, .inl (upd (σ (10 + i)) (nI j).toNatClampNeg (vp_nar .char x)))) = lt_w dA ad (lt_up σ (10 + i) j y) 10 sh := by
    rw [hj9, hy]
    exact lt_ur_w (upd (σ (10 + i)) j y) hi
  rw [hset] at hP hD
  exact kk p e R s m args below meth c H1 locs1 Z D dA ad0 ad A N0 ls C ⟨Wd.1, Wd.2.1, Wd.2.2.1, hP, hD, hS⟩ hl ho.2.2.2 hr
theorem g_zast {a n j pc2 : Nat} {x y : Int32} (hs : lt_at sh a = some (.inl (2, n))) (hj : j < n) (hn : n < 2 ^ 31) (hy : vp_nar .boolean x = y) (hd : decode M.2.1 pc = .ok (.bastore, 1)) (he : pc + 1 = pc2) (kk : lt_G l d mc ms M ck cn sh (lt_up σ a j y) pc2 L st Q) : lt_G l d mc ms M ck cn sh σ pc L (.int x :: .int (nI j) :: .ref a :: st) Q := by
  subst he
  obtain ⟨i, rfl, hi⟩ := lt_at_get hs
  intro p e R s m args below meth c H locs Z D dA ad0 ad A N0 ls C Wd hl ho hr
  have hj9 : (nI j).toNatClampNeg = j := nI_clamp (by omega)
  refine va_zast C.1.1 C.1.2.1 C.2.2.2.2.1 Wd.2.2.2.1 Wd.2.2.2.2.1 Wd.2.2.2.2.2 i 2 (cA := dA 2) (n := n) (f := σ (10 + i)) (by rw [lt_w_get, hi]; rfl) rfl (vp_in_nI hj hn) hd (fun H1 locs1 hP hD hS => ?_)
  have hset : (lt_w dA ad σ 10 sh).set i (ad (10 + i), .inl (dA 2, n, .inl (upd (σ (10 + i)) (nI j).toNatClampNeg (vp_nar .boolean x)))) = lt_w dA ad (lt_up σ (10 + i) j y) 10 sh := by
    rw [hj9, hy]
    exact lt_ur_w (upd (σ (10 + i)) j y) hi
  rw [hset] at hP hD
  exact kk p e R s m args below meth c H1 locs1 Z D dA ad0 ad A N0 ls C ⟨Wd.1, Wd.2.1, Wd.2.2.1, hP, hD, hS⟩ hl ho.2.2.2 hr
/-- System.arraycopy of numbers -/
theorem g_copy {a0 a1 n0 n1 sp dp n idx pc2 : Nat} (h0 : lt_at sh a0 = some (.inl (0, n0))) (h1 : lt_at sh a1 = some (.inl (0, n1))) (hs : sp + n ≤ n0) (ht : dp + n ≤ n1) (hn0 : n0 < 2 ^ 31) (hn1 : n1 < 2 ^ 31) (lk : Cond.methodLink M.1.cls idx arraycopyName ∈ lt_tb) (w1 : Cond.native arraycopyName ∈ lt_tb) (w2 : Cond.static arraycopyName ∈ lt_tb) (w3 : Cond.initialized "java/lang/System" ∈ lt_tb) (hst : st.length ≤ 8) (hdp : 1 ≤ d)
    (hd : decode M.2.1 pc = .ok (.invokestatic idx, 3)) (he : pc + 3 = pc2) (kk : lt_G l d mc ms M ck cn sh (lt_ur σ a1 (va_cpy (σ a0) (σ a1) sp dp n)) pc2 L st Q) : lt_G l d mc ms M ck cn sh σ pc L (.int (nI n) :: .int (nI dp) :: .ref a1 :: .int (nI sp) :: .ref a0 :: st) Q := by
  subst he
  obtain ⟨i0, rfl, hi0⟩ := lt_at_get h0
  obtain ⟨i1, rfl, hi1⟩ := lt_at_get h1
  intro p e R s m args below meth c H locs Z D dA ad0 ad A N0 ls C Wd hl ho hr
  have e1 : (nI sp).toNatClampNeg = sp := nI_clamp (by omega)
  have e2 : (nI dp).toNatClampNeg = dp := nI_clamp (by omega)
  have e3 : (nI n).toNatClampNeg = n := nI_clamp (by omega)
  obtain ⟨lv, hlv, -⟩ := hl.1
  have hts := C.1.2.2.2.2
  have hR := C.2.2.2.2.2.2.1
  refine va_copyi C.1.1 C.1.2.1 (C.1.2.2.1.trans hlv.1.symm) C.1.2.2.2.1 (hts _ lk) (hts _ w1) (hts _ w2) (hts _ w3) C.2.2.2.2.1 Wd.2.2.2.1 Wd.2.2.2.2.1 Wd.2.2.2.2.2 i0 i1 0 0 (c0 := dA 0) (c1 := dA 0) (n0 := n0) (n1 := n1) (f := σ (10 + i0)) (g := σ (10 + i1)) (ty := .int) (by rw [lt_w_get, hi0]; rfl) (by rw [lt_w_get, hi1]; rfl) rfl rfl rfl (nI_pos (by omega)) (nI_pos (by omega)) (nI_pos (by omega)) (by rw [e1, e3]; exact hs) (by rw [e2, e3]; exact ht) (fun _ _ => rfl) (by omega) ?_ hd (fun H1 locs1 hP hD hS => ?_)
  · rw [ho.2.2.2.2.2.cat ad]
    have : nativeFrameWords "java/lang/System" "arraycopy" 5 = 7 := by decide +kernel
    rw [this]
    omega
  · have hset : (lt_w dA ad σ 10 sh).set i1 (ad (10 + i1), .inl (dA 0, n1, .inl (va_cpy (σ (10 + i0)) (σ (10 + i1)) (nI sp).toNatClampNeg (nI dp).toNatClampNeg (nI n).toNatClampNeg))) = lt_w dA ad (lt_ur σ (10 + i1) (va_cpy (σ (10 + i0)) (σ (10 + i1)) sp dp n)) 10 sh := by
      rw [e1, e2, e3]
      exact lt_ur_w (va_cpy (σ (10 + i0)) (σ (10 + i1)) sp dp n) hi1
    rw [hset] at hP hD
    exact kk p e R s m args below meth c H1 locs1 Z D dA ad0 ad A N0 ls C ⟨Wd.1, Wd.2.1, Wd.2.2.1, hP, hD, hS⟩ hl ho.2.2.2.2.2 hr
theorem g_max {x y : Int32} {idx pc2 : Nat} (lk : Cond.methodLink M.1.cls idx Lib.Math.max.name ∈ lt_tb) (w1 : Cond.static Lib.Math.max.name ∈ lt_tb) (w2 : Cond.initialized "java/lang/Math" ∈ lt_tb) (w3 : Cond.code Lib.Math.max.name Lib.Math.max.code 2 (some .int) ∈ lt_tb) (hst : st.length ≤ 8) (hdp : 1 ≤ d) (hc : ck ≤ mc) (hs : cn ≤ ms) (hd : decode M.2.1 pc = .ok (.invokestatic idx, 3)) (he : pc + 3 = pc2)
    (kk : lt_G l d mc ms M ck cn sh σ pc2 L (.int (if x < y then y else x) :: st) Q) : lt_G l d mc ms M ck cn sh σ pc L (.int y :: .int x :: st) Q := by
  subst he
  intro p e R s m args below meth c H locs Z D dA ad0 ad A N0 ls C Wd hl ho hr
  obtain ⟨lv, hlv, -⟩ := hl.1
  have hts := C.1.2.2.2.2
  have hR := C.2.2.2.2.2.2.1
  refine va_mmax C.1.1 C.1.2.1 (C.1.2.2.1.trans hlv.1.symm) C.1.2.2.2.1 (hts _ lk) (hts _ w1) (hts _ w2) (hts _ w3) (by omega) (by rw [ho.2.2.cat ad]; omega) (by omega) (by omega) hd ?_
  exact kk p e R s m args below meth c H locs Z D dA ad0 ad A N0 ls C Wd hl ⟨trivial, ho.2.2⟩ hr
theorem g_min {x y : Int32} {idx pc2 : Nat} (lk : Cond.methodLink M.1.cls idx Lib.Math.min.name ∈ lt_tb) (w1 : Cond.static Lib.Math.min.name ∈ lt_tb) (w2 : Cond.initialized "java/lang/Math" ∈ lt_tb) (w3 : Cond.code Lib.Math.min.name Lib.Math.min.code 2 (some .int) ∈ lt_tb) (hst : st.length ≤ 8) (hdp : 1 ≤ d) (hc : ck ≤ mc) (hs : cn ≤ ms) (hd : decode M.2.1 pc = .ok (.invokestatic idx, 3)) (he : pc + 3 = pc2)
    (kk : lt_G l d mc ms M ck cn sh σ pc2 L (.int (if y < x then y else x) :: st) Q) : lt_G l d mc ms M ck cn sh σ pc L (.int y :: .int x :: st) Q := by
  subst he
  intro p e R s m args below meth c H locs Z D dA ad0 ad A N0 ls C Wd hl ho hr
  obtain ⟨lv, hlv, -⟩ := hl.1
  have hts := C.1.2.2.2.2
  have hR := C.2.2.2.2.2.2.1
  refine va_mmin C.1.1 C.1.2.1 (C.1.2.2.1.trans hlv.1.symm) C.1.2.2.2.1 (hts _ lk) (hts _ w1) (hts _ w2) (hts _ w3) (by omega) (by rw [ho.2.2.cat ad]; omega) (by omega) (by omega) hd ?_
  exact kk p e R s m args below meth c H locs Z D dA ad0 ad A N0 ls C Wd hl ⟨trivial, ho.2.2⟩ hr
/-! what lies outside -/
theorem lt_X.sc {ad : Nat → Nat} {xl : Nat} {xs : Nat → Int32} {A : Nat → Prop} {U : State} {H : Heap} (h : lt_X ad xl xs A U H) : va_X (ad 0) xl xs U H ∧ ad 0 < H.size ∧ ¬ A (ad 0) := ⟨h.1, h.2.1, h.2.2.1⟩
theorem g_xald {j pc2 : Nat} (hj : j < l.2.1) (hn : l.2.1 < 2 ^ 31) (hd : decode M.2.1 pc = .ok (.iaload, 1)) (he : pc + 1 = pc2) (kk : lt_G l d mc ms M ck cn sh σ pc2 L (.int (l.2.2 j) :: st) Q) : lt_G l d mc ms M ck cn sh σ pc L (.int (nI j) :: .ref 0 :: st) Q := by
  subst he
  intro p e R s m args below meth c H locs Z D dA ad0 ad A N0 ls C Wd hl ho hr
  obtain ⟨h1, h2, h3⟩ := C.2.2.2.2.2.2.2.sc
  have hj9 : (nI j).toNatClampNeg = j := nI_clamp (by omega)
  have e0 : ad 0 = ad0 0 := Wd.1 0 (by omega)
  show W p l.1 e R s m args below meth c H locs ck cn Z (F0 m pc ls (.int (nI j) :: .ref (ad 0) :: st.map (lt_tr ad)))
  rw [e0]
  refine va_sld C.1.1 C.1.2.1 h1 h2 h3 Wd.2.2.2.2.2 (vp_in_nI hj hn) hd ?_
  rw [hj9]
  exact kk p e R s m args below meth c H locs Z D dA ad0 ad A N0 ls C Wd hl ⟨trivial, ho.2.2⟩ hr
theorem g_xlen {pc2 : Nat} (hd : decode M.2.1 pc = .ok (.arraylength, 1)) (he : pc + 1 = pc2) (kk : lt_G l d mc ms M ck cn sh σ pc2 L (.int (nI l.2.1) :: st) Q) : lt_G l d mc ms M ck cn sh σ pc L (.ref 0 :: st) Q := by
  subst he
  intro p e R s m args below meth c H locs Z D dA ad0 ad A N0 ls C Wd hl ho hr
  obtain ⟨h1, h2, h3⟩ := C.2.2.2.2.2.2.2.sc
  have e0 : ad 0 = ad0 0 := Wd.1 0 (by omega)
  show W p l.1 e R s m args below meth c H locs ck cn Z (F0 m pc ls (.ref (ad 0) :: st.map (lt_tr ad)))
  rw [e0]
  refine va_slen C.1.1 C.1.2.1 h1 h2 h3 Wd.2.2.2.2.2 hd ?_
  exact kk p e R s m args below meth c H locs Z D dA ad0 ad A N0 ls C Wd hl ⟨trivial, ho.2⟩ hr
/-- ldc of a text's constant -/
theorem g_ldcS0 {pc2 : Nat} (hm : M.1.cls = RX7) (hd : decode M.2.1 pc = .ok (.ldc 67, 2)) (he : pc + 2 = pc2) (kk : lt_G l d mc ms M ck cn sh σ pc2 L (.ref 1 :: st) Q) : lt_G l d mc ms M ck cn sh σ pc L st Q := by
  subst he
  intro p e R s m args below meth c H locs Z D dA ad0 ad A N0 ls C Wd hl ho hr
  have e0 : ad 1 = ad0 1 := Wd.1 1 (by omega)
  refine va_ldcS C.1.1 C.1.2.1 C.1.2.2.2.1 (q := ad 1) (tx := lt_t0) (by rw [hm, e0]; exact C.2.2.2.2.2.2.2.2.2.2.2.1) hd ?_
  exact kk p e R s m args below meth c H locs Z D dA ad0 ad A N0 ls C Wd hl ⟨show 1 < 10 + sh.length by omega, ho⟩ hr
theorem g_ldcS1 {pc2 : Nat} (hm : M.1.cls = RX3) (hd : decode M.2.1 pc = .ok (.ldc 55, 2)) (he : pc + 2 = pc2) (kk : lt_G l d mc ms M ck cn sh σ pc2 L (.ref 2 :: st) Q) : lt_G l d mc ms M ck cn sh σ pc L st Q := by
  subst he
  intro p e R s m args below meth c H locs Z D dA ad0 ad A N0 ls C Wd hl ho hr
  have e0 : ad 2 = ad0 2 := Wd.1 2 (by omega)
  refine va_ldcS C.1.1 C.1.2.1 C.1.2.2.2.1 (q := ad 2) (tx := lt_t1) (by rw [hm, e0]; exact C.2.2.2.2.2.2.2.2.2.2.2.2.1) hd ?_
  exact kk p e R s m args below meth c H locs Z D dA ad0 ad A N0 ls C Wd hl ⟨show 2 < 10 + sh.length by omega, ho⟩ hr
/-- a text's bytes, its coder, by getfield -/
theorem g_sval {i idx pc2 : Nat} (hi : i < 2) (lk : Cond.fieldLink M.1.cls idx RJ0 "value" "[B" ∈ lt_tb) (hd : decode M.2.1 pc = .ok (.getfield idx, 3)) (he : pc + 3 = pc2) (kk : lt_G l d mc ms M ck cn sh σ pc2 L (.ref (3 + i) :: st) Q) : lt_G l d mc ms M ck cn sh σ pc L (.ref (1 + i) :: st) Q := by
  subst he
  intro p e R s m args below meth c H locs Z D dA ad0 ad A N0 ls C Wd hl ho hr
  have e0 : ad (1 + i) = ad0 (1 + i) := Wd.1 _ (by omega)
  have e1 : ad (3 + i) = ad0 (3 + i) := Wd.1 _ (by omega)
  have hS := C.2.2.2.2.2.2.2.2.2.2.1
  show W p l.1 e R s m args below meth c H locs ck cn Z (F0 m pc ls (.ref (ad (1 + i)) :: st.map (lt_tr ad)))
  rw [e0]
  refine vk_getf (v := .ref (ad0 (3 + i))) C.1.1 C.1.2.1 (hS.1 i hi).2.2.1 Wd.2.2.2.2.2 C.1.2.2.2.1 (C.1.2.2.2.2 _ lk) (fun _ h => h) hd ?_
  rw [← e1]
  exact kk p e R s m args below meth c H locs Z D dA ad0 ad A N0 ls C Wd hl ⟨show 3 + i < 10 + sh.length by omega, ho.2⟩ hr
theorem g_scod {i idx pc2 : Nat} (hi : i < 2) (lk : Cond.fieldLink M.1.cls idx RJ0 "coder" "B" ∈ lt_tb) (hd : decode M.2.1 pc = .ok (.getfield idx, 3)) (he : pc + 3 = pc2) (kk : lt_G l d mc ms M ck cn sh σ pc2 L (.int 0 :: st) Q) : lt_G l d mc ms M ck cn sh σ pc L (.ref (1 + i) :: st) Q := by
  subst he
  intro p e R s m args below meth c H locs Z D dA ad0 ad A N0 ls C Wd hl ho hr
  have e0 : ad (1 + i) = ad0 (1 + i) := Wd.1 _ (by omega)
  have hS := C.2.2.2.2.2.2.2.2.2.2.1
  show W p l.1 e R s m args below meth c H locs ck cn Z (F0 m pc ls (.ref (ad (1 + i)) :: st.map (lt_tr ad)))
  rw [e0]
  refine vk_getf (v := .int 0) C.1.1 C.1.2.1 (hS.1 i hi).2.1 Wd.2.2.2.2.2 C.1.2.2.2.1 (C.1.2.2.2.2 _ lk) (fun _ h => h) hd ?_
  exact kk p e R s m args below meth c H locs Z D dA ad0 ad A N0 ls C Wd hl ⟨trivial, ho.2⟩ hr
theorem g_sbyt {i j n pc2 : Nat} {b : Int32} (hi : i < 2) (hn : lt_len.getD i 0 = n) (hj : j < n) (hn2 : n < 2 ^ 31) (hb : (lt_byt.getD i []).getD j 0 = b) (hd : decode M.2.1 pc = .ok (.baload, 1)) (he : pc + 1 = pc2) (kk : lt_G l d mc ms M ck cn sh σ pc2 L (.int b :: st) Q) : lt_G l d mc ms M ck cn sh σ pc L (.int (nI j) :: .ref (3 + i) :: st) Q := by
  subst he
  subst hn
  intro p e R s m args below meth c H locs Z D dA ad0 ad A N0 ls C Wd hl ho hr
  have e1 : ad (3 + i) = ad0 (3 + i) := Wd.1 _ (by omega)
  have hS := C.2.2.2.2.2.2.2.2.2.2.1
  have hj9 : (nI j).toNatClampNeg = j := nI_clamp (by omega)
  show W p l.1 e R s m args below meth c H locs ck cn Z (F0 m pc ls (.int (nI j) :: .ref (ad (3 + i)) :: st.map (lt_tr ad)))
  rw [e1]
  refine va_tb (v := .int b) C.1.1 C.1.2.1 (hS.1 i hi).2.2.2 Wd.2.2.2.2.2 (vp_in_nI hj hn2) (by rw [hj9, hb]) hd ?_
  exact kk p e R s m args below meth c H locs Z D dA ad0 ad A N0 ls C Wd hl ⟨trivial, ho.2.2⟩ hr
theorem g_slen {i n pc2 : Nat} (hi : i < 2) (hn : lt_len.getD i 0 = n) (hd : decode M.2.1 pc = .ok (.arraylength, 1)) (he : pc + 1 = pc2) (kk : lt_G l d mc ms M ck cn sh σ pc2 L (.int (nI n) :: st) Q) : lt_G l d mc ms M ck cn sh σ pc L (.ref (3 + i) :: st) Q := by
  subst he
  subst hn
  intro p e R s m args below meth c H locs Z D dA ad0 ad A N0 ls C Wd hl ho hr
  have e1 : ad (3 + i) = ad0 (3 + i) := Wd.1 _ (by omega)
  have hS := C.2.2.2.2.2.2.2.2.2.2.1
  show W p l.1 e R s m args below meth c H locs ck cn Z (F0 m pc ls (.ref (ad (3 + i)) :: st.map (lt_tr ad)))
  rw [e1]
  refine va_tlen (v := nI (lt_len.getD i 0)) C.1.1 C.1.2.1 (hS.1 i hi).2.2.2 Wd.2.2.2.2.2 rfl hd ?_
  exact kk p e R s m args below meth c H locs Z D dA ad0 ad A N0 ls C Wd hl ⟨trivial, ho.2⟩ hr
/-- the two statics of the JDK's -/
theorem g_compact {idx pc2 : Nat} (lk : Cond.fieldLink M.1.cls idx RJ0 "COMPACT_STRINGS" "Z" ∈ lt_tb) (hd : decode M.2.1 pc = .ok (.getstatic idx, 3)) (he : pc + 3 = pc2) (kk : lt_G l d mc ms M ck cn sh σ pc2 L (.int 1 :: st) Q) : lt_G l d mc ms M ck cn sh σ pc L st Q := by
  subst he
  intro p e R s m args below meth c H locs Z D dA ad0 ad A N0 ls C Wd hl ho hr
  refine va_gets (v := .int 1) C.1.1 C.1.2.1 C.2.2.2.2.2.2.2.2.2.2.2.2.2.1 Wd.2.2.2.2.2 C.1.2.2.2.1 (C.1.2.2.2.2 _ lk) (fun _ h => h) hd ?_
  exact kk p e R s m args below meth c H locs Z D dA ad0 ad A N0 ls C Wd hl ⟨trivial, ho⟩ hr
theorem g_formatter {idx pc2 : Nat} (lk : Cond.fieldLink M.1.cls idx RJ3 "SIOOBE_FORMATTER" "Ljava/util/function/BiFunction;" ∈ lt_tb) (hd : decode M.2.1 pc = .ok (.getstatic idx, 3)) (he : pc + 3 = pc2) (k1 : lt_G l d mc ms M ck cn sh σ pc2 L (.null :: st) Q) (k2 : lt_G l d mc ms M ck cn sh σ pc2 L (.ref 5 :: st) Q) : lt_G l d mc ms M ck cn sh σ pc L st Q := by
  subst he
  intro p e R s m args below meth c H locs Z D dA ad0 ad A N0 ls C Wd hl ho hr
  have e1 : ad 5 = ad0 5 := Wd.1 _ (by omega)
  rcases C.2.2.2.2.2.2.2.2.2.2.2.2.2.2.1 with h | h
  · refine va_gets (v := .null) C.1.1 C.1.2.1 h Wd.2.2.2.2.2 C.1.2.2.2.1 (C.1.2.2.2.2 _ lk) (fun _ h => h) hd ?_
    exact k1 p e R s m args below meth c H locs Z D dA ad0 ad A N0 ls C Wd hl ⟨trivial, ho⟩ hr
  · refine va_gets (v := .ref (ad0 5)) C.1.1 C.1.2.1 h Wd.2.2.2.2.2 C.1.2.2.2.1 (C.1.2.2.2.2 _ lk) (fun _ h => h) hd ?_
    rw [← e1]
    exact k2 p e R s m args below meth c H locs Z D dA ad0 ad A N0 ls C Wd hl ⟨show 5 < 10 + sh.length by omega, ho⟩ hr
end LT2
end
section
/-! calls by contract, and new cells -/
/-- what the tables say of a method that is called: n parameters -/
def lt_me (M : lt_M) (n : Nat) : Prop := Cond.code M.1 M.2.1 M.2.2.1 M.2.2.2 ∈ lt_tb ∧ Cond.initialized M.1.cls ∈ lt_tb ∧ (M.1.cls ≠ "java/lang/invoke/MethodHandle" ∧ M.1.cls ≠ "java/lang/invoke/VarHandle") ∧ (parseMethodDescriptor M.1.desc).map (fun d => d.parameters.length) = some n ∧ M.2.2.1 ≤ 21
def lt_meV (M : lt_M) (n : Nat) : Prop := lt_me M n ∧ Cond.instanceMethod M.1 ∈ lt_tb ∧ Cond.selects M.1.cls M.1 M.1 ∈ lt_tb
def lt_meS (M : lt_M) (n : Nat) : Prop := lt_me M n ∧ Cond.static M.1 ∈ lt_tb
def lt_meI (M : lt_M) (n : Nat) : Prop := lt_me M n ∧ Cond.instanceMethod M.1 ∈ lt_tb ∧ M.1.name = "<init>"
theorem lt_goodIn {M M' : lt_M} {n : Nat} (h : lt_me M' n) : GoodIn lt_tb (lt_ws M') := by
  intro w hw
  have hm : w ∈ lt_tb := by
    rcases List.mem_cons.mp hw with e | e
    · rw [e]; exact h.1
    · exact e
  exact ⟨hm, good_of_word (List.mem_filter.mp hm).2⟩
section LT3
variable {l : lt_L} {d mc ms : Nat} {M : lt_M} {ck cn : Nat} {sh : lt_H} {σ : lt_S} {pc : Nat} {L : List (Option Value)} {st : List Value} {Q : lt_Q}
variable {p : Program} {e : Env} {R : Room} {s : State} {m : MethodId} {args : Array Value} {below : List Frame} {meth : Method} {c : Code} {H : Heap} {locs : List Loc} {Z : State → Prop} {D : va_G} {dA : Nat → ClassId} {ad0 ad : Nat → Nat} {A : Nat → Prop} {N0 : Nat} {ls : Array Slot}
theorem lt_inA (hA : ∀ q, s.heap.size ≤ q → A q) (Wd : lt_Wd D dA ad0 ad A N0 sh σ s H locs) : ∀ q, lt_A ad sh.length H.size q → A q := by
  intro q h
  rcases h with ⟨a, ha, rfl⟩ | h
  · have hc : sh[a]? = some sh[a] := List.getElem?_eq_getElem ha
    have := Wd.2.2.2.2.1.2 a (ad (10 + a), lt_cell dA ad sh[a] (σ (10 + a))) (by rw [lt_w_get, hc]; rfl)
    exact this
  · exact hA q (Nat.le_trans Wd.2.2.2.2.2.1 h)
theorem lt_X.move {ad1 : Nat → Nat} {xl : Nat} {xs : Nat → Int32} {A B : Nat → Prop} {s U : State} {H : Heap} (hX : lt_X ad0 xl xs A s s.heap) (had : ∀ a, a < 10 → ad1 a = ad0 a) (hW : s.WarmedH U.vm) (hU : U.heap = H) (hz : s.heap.size ≤ H.size) (hk : ∀ q : Nat, q < s.heap.size → ¬ A q → H[q]? = s.heap[q]?) (hB : ∀ q, B q → A q) : lt_X ad1 xl xs B U U.heap := by
  obtain ⟨h1, h2, h3, h4, h5, h6, h7, h8, h9⟩ := hX
  have e0 := had 0 (by omega)
  have e1 := had 1 (by omega)
  have e2 := had 2 (by omega)
  have e5 := had 5 (by omega)
  have eK : ∀ i, i < 2 → ad1 (1 + i) = ad0 (1 + i) := fun i hi => had _ (by omega)
  have eV : ∀ i, i < 2 → ad1 (3 + i) = ad0 (3 + i) := fun i hi => had _ (by omega)
  subst hU
  refine ⟨?_, ?_, ?_, ?_, ?_, ?_, ?_, ?_, ?_⟩
  · rw [e0]; exact (h1.moved hW.alike).kept (hk _ h2 h3)
  · rw [e0]; exact Nat.lt_of_lt_of_le h2 hz
  · rw [e0]; exact fun z => h3 (hB _ z)
  · have h := ((h4.moved hW.alike).kept hk).narrow hB
    refine ⟨fun i hi => ?_, fun i j hi hj z => ?_⟩
    · show va_O "java/lang/String" (ad1 (1 + i)) B U U.heap ∧ va_OF "java/lang/String" "coder" "B" (.int 0) (ad1 (1 + i)) B U U.heap ∧ va_OF "java/lang/String" "value" "[B" (.ref (ad1 (3 + i))) (ad1 (1 + i)) B U U.heap ∧ va_T .byte (ad1 (3 + i)) (lt_len.getD i 0) (fun j => .int ((lt_byt.getD i []).getD j 0)) B U U.heap
      rw [eK i hi, eV i hi]
      exact h.1 i hi
    · exact h.2 i j hi hj (by show ad0 (1 + i) = ad0 (1 + j); rw [← eK i hi, ← eK j hj]; exact z)
  · rw [e1]; exact h5.warm hW
  · rw [e2]; exact h6.warm hW
  · exact ((h7.moved hW.alike).kept hk).narrow hB
  · rw [e5]
    rcases h8 with h | h
    · exact Or.inl (((h.moved hW.alike).kept hk).narrow hB)
    · exact Or.inr (((h.moved hW.alike).kept hk).narrow hB)
  · exact ⟨h9.1.warmM hW, h9.2.1.warmM hW, h9.2.2.1.warmM hW, h9.2.2.2.1.warmM hW, h9.2.2.2.2.moved hW.alike⟩
theorem lt_callpre (C : lt_Cx M d mc ms R p s m args meth c D dA A ad0 l.2.1 l.2.2) (Wd : lt_Wd D dA ad0 ad A N0 sh σ s H locs) {U : State} (hU : U.heap = H) (hW : s.WarmedH U.vm) : lt_pre D dA ad l.2.1 l.2.2 H.size sh σ U := by
  refine ⟨by rw [hU], by rw [hU]; exact Wd.2.2.2.1, va_K.moved hW.alike C.2.2.2.2.1, Wd.2.2.2.2.1.weaken (fun _ _ _ _ => trivial), Wd.2.2.1, ?_⟩
  exact C.2.2.2.2.2.2.2.move (fun a ha => Wd.1 a (by omega)) hW hU Wd.2.2.2.2.2.1 Wd.2.2.2.2.2.2.1 (lt_inA C.2.2.2.2.2.1 Wd)
theorem lt_blind {as : List Value} {sz xl : Nat} {xs : Nat → Int32} : FrameBlind (va_Pc (as.map (lt_tr ad)) (lt_pre D dA ad xl xs sz sh σ)) := by
  intro a U g mk q
  obtain ⟨q0, q1, q2, q3, q4, q5, q6⟩ := q
  obtain ⟨h1, h2, h3, h4, h5, h6, h7, h8, h9⟩ := q6
  have hvm : U.vm.Alike (U.calling g mk a).vm := Vm.Alike.refl U.vm
  refine ⟨q0, q1, q2, va_K.moved (u := U) (U := U.calling g mk a) hvm q3, q4, q5, ?_⟩
  refine ⟨va_X.moved hvm h1, h2, h3, vk_S.moved hvm h4, vk_R.same rfl h5, vk_R.same rfl h6, va_Z.moved hvm h7, ?_, ⟨h9.1.same rfl rfl, h9.2.1.same rfl rfl, h9.2.2.1.same rfl rfl, h9.2.2.2.1.same rfl rfl, h9.2.2.2.2.moved hvm⟩⟩
  rcases h8 with h | h
  · exact Or.inl (va_Z.moved hvm h)
  · exact Or.inr (va_Z.moved hvm h)
/-- behind a call -/
theorem lt_after {st0 rest : List Value} {mc' ms' : Nat} {Q' : lt_Q} {a0 : Array Value} (C : lt_Cx M d mc ms R p s m args meth c D dA A ad0 l.2.1 l.2.2) (Wd : lt_Wd D dA ad0 ad A N0 sh σ s H locs)
    (hr : va_Run p l.1 e R s m args below meth c H locs ck cn mc' ms' (F0 m pc ls st0) rest (lt_post Q' D dA ad sh.length (lt_A ad sh.length H.size) a0) (lt_A ad sh.length H.size))
    (kk : ∀ (r : Option Int32) (sh' : lt_H) (σ' : lt_S) (ad' : Nat → Nat) (H1 : Heap) (locs1 : List Loc), Q' r sh' σ' → sh.length ≤ sh'.length → (∀ a, a < 10 + sh.length → ad' a = ad a) → lt_Wd D dA ad0 ad' A N0 sh' σ' s H1 locs1 → W p l.1 e R s m args below meth c H1 locs1 (ck + mc') (cn + ms') Z (F0 m (pc + 3) ls (r.toList.map Value.int ++ rest))) :
    W p l.1 e R s m args below meth c H locs ck cn Z (F0 m pc ls st0) := by
  intro T hT X
  obtain ⟨v, st₀, t, T', L9, h0, X', hL, e1, e2, ⟨⟨r, sh', σ', ad', hq, hv, had, hn, hok, hP, hD⟩, hz, hk⟩, stp⟩ := hr T hT X
  cases hv
  rw [h0] at hz hk
  have hin := lt_inA C.2.2.2.2.2.1 Wd
  have hS := Wd.2.2.2.2.2
  have key := kk r sh' σ' ad' T'.heap (locs ++ L9) hq hn had ⟨fun a ha => (had a (by have := Wd.2.1; omega)).trans (Wd.1 a ha), Nat.le_trans Wd.2.1 hn, hok, by rw [e1]; exact hP, hD.weaken (fun k q _ h => hin q.1 h),
    ⟨Nat.le_trans hS.1 (by rw [e1]; exact hz), fun q h1 h2 => by rw [e1, hk q (Nat.lt_of_lt_of_le h1 hS.1) (fun z => h2 (hin q z))]; exact hS.2.1 q h1 h2, fun q hq9 => by
      rcases List.mem_append.mp hq9 with h | h
      · exact hS.2.2 q h
      · exact hin _ (hL q h)⟩⟩
  obtain ⟨t2, a1, b1⟩ := key T' rfl X'
  refine ⟨t2, stp t2 ?_, b1⟩
  have : (r.map Value.int).toList ++ rest = r.toList.map Value.int ++ rest := by cases r <;> rfl
  show Steps p.tables e below (T'.setTop (F0 m (pc + 3) ls ((r.map Value.int).toList ++ rest))) t2
  rw [this]
  exact a1
theorem lt_lv.same {nL N : Nat} {ad' : Nat → Nat} {N' : Nat} (h : lt_lv ad ls nL N L) (he : ∀ a, a < N → ad' a = ad a) (hN : N ≤ N') : lt_lv ad' ls nL N' L := by
  obtain ⟨⟨lv, h1, h2⟩, h3⟩ := h
  exact ⟨⟨lv, h1, fun i v hi => by rw [(h3 i v hi).same he]; exact h2 i v hi⟩, fun i v hi => (h3 i v hi).mono hN⟩
theorem lt_ints (r : Option Int32) (ad : Nat → Nat) (st : List Value) : (r.toList.map Value.int ++ st).map (lt_tr ad) = r.toList.map Value.int ++ st.map (lt_tr ad) := by cases r <;> rfl
theorem lt_ints_ok {N : Nat} {r : Option Int32} {st : List Value} (h : lt_sok N st) : lt_sok N (r.toList.map Value.int ++ st) := by
  cases r
  · exact h
  · exact ⟨trivial, h⟩
theorem g_callV {a idx ci n mc' ms' pc2 : Nat} {M' : lt_M} {as stk : List Value} {fs : List (Option Value)} {Q' : lt_Q} (hR : lt_R l d mc' ms' M' sh σ (.ref a :: as) Q') (me : lt_meV M' n) (lk : Cond.methodLink M.1.cls idx M'.1 ∈ lt_tb) (hs : lt_at sh a = some (.inr (.inr (ci, fs)))) (hc : ∃ r, vwCl[ci]? = some r ∧ r.1 = M'.1.cls)
    (hn : as.length = n) (hstk : stk = as.reverse ++ .ref a :: st) (hst : st.length ≤ 8) (hcell : ck + mc' ≤ mc ∧ cn + ms' ≤ ms) (hd : decode M.2.1 pc = .ok (.invokevirtual idx, 3)) (he : pc + 3 = pc2)
    (kk : ∀ (r : Option Int32) (sh' : lt_H) (σ' : lt_S), Q' r sh' σ' → lt_G l (d + 1) mc ms M (ck + mc') (cn + ms') sh' σ' pc2 L (r.toList.map Value.int ++ st) Q) : lt_G l (d + 1) mc ms M ck cn sh σ pc L stk Q := by
  subst he
  subst hstk
  obtain ⟨i, rfl, hi⟩ := lt_at_get hs
  intro p e R s m args below meth c H locs Z D dA ad0 ad A N0 ls C Wd hl ho hr
  obtain ⟨r0, hc1, hc2⟩ := hc
  obtain ⟨me1, me2, me3⟩ := me
  have hts := C.1.2.2.2.2
  have hRm := C.2.2.2.2.2.2.1
  have ho2 := lt_sok.app.mp ho
  obtain ⟨lv, hlv, -⟩ := hl.1
  have hcw : CallW R s args M.1.cls M'.1.cls idx M'.1 M'.2.1 M'.2.2.1 M'.2.2.2 (lt_ws M') (lt_rm d mc' ms') mc' ms' n := by
    refine ⟨callB_of n hts (lt_goodIn (M := M) me1) rfl rfl rfl (hts _ me1.2.1) (hts _ lk) ⟨me1.2.2.1.1, me1.2.2.1.2, me1.2.2.2.1⟩ ⟨?_, ?_⟩, hts _ me2, hts _ me3⟩
    · show d + 1 ≤ R.frames; exact hRm.1
    · show 8 + (M'.2.2.1 + 11) + 40 * d ≤ R.locals
      have := me1.2.2.2.2
      omega
  have hrun := va_runV (b := ad (10 + i)) (As := as.map (lt_tr ad)) (rest := st.map (lt_tr ad)) (H := H) (locs := locs) (cells := ck) (slots := cn) (e := e) (below := below) (meth := meth) (g := F0 m pc ls ((as.reverse ++ .ref (10 + i) :: st).map (lt_tr ad))) C.1 (hR D dA ad H.size ⟨ho2.2.1, lt_sok.rev ho2.1⟩) hcw
    ⟨lt_blind, va_recv C.2.2.2.2.1 Wd.2.2.2.1 hc1 (q0 := i) (fs := lt_fs ad (σ (10 + i)) 0 fs) (by rw [lt_w_get, hi]; rfl) |>.imp (fun _ h => by rw [hc2] at h; exact h), fun U hU hW => ⟨rfl, lt_callpre C Wd hU hW⟩⟩ rfl (by rw [List.length_map]; exact hn) hlv.1 (by show List.map _ _ = _; rw [List.map_append, List.map_reverse]; rfl) (lv_room (by rw [ho2.2.2.cat ad]; exact hst)) hd ⟨by omega, by omega⟩
  refine lt_after C Wd hrun (fun r sh' σ' ad' H1 locs1 hq hn9 had Wd1 => ?_)
  have := kk r sh' σ' hq p e R s m args below meth c H1 locs1 Z D dA ad0 ad' A N0 ls C Wd1 (hl.same had (by omega)) (lt_ints_ok (ho2.2.2.mono (by omega))) hr
  rw [lt_ints, ho2.2.2.same had] at this
  exact this
theorem g_callS {idx n mc' ms' pc2 : Nat} {M' : lt_M} {as stk : List Value} {Q' : lt_Q} (hR : lt_R l d mc' ms' M' sh σ as Q') (me : lt_meS M' n) (lk : Cond.methodLink M.1.cls idx M'.1 ∈ lt_tb)
    (hn : as.length = n) (hstk : stk = as.reverse ++ st) (hst : st.length ≤ 8) (hcell : ck + mc' ≤ mc ∧ cn + ms' ≤ ms) (hd : decode M.2.1 pc = .ok (.invokestatic idx, 3)) (he : pc + 3 = pc2)
    (kk : ∀ (r : Option Int32) (sh' : lt_H) (σ' : lt_S), Q' r sh' σ' → lt_G l (d + 1) mc ms M (ck + mc') (cn + ms') sh' σ' pc2 L (r.toList.map Value.int ++ st) Q) : lt_G l (d + 1) mc ms M ck cn sh σ pc L stk Q := by
  subst he
  subst hstk
  intro p e R s m args below meth c H locs Z D dA ad0 ad A N0 ls C Wd hl ho hr
  obtain ⟨me1, me2⟩ := me
  have hts := C.1.2.2.2.2
  have hRm := C.2.2.2.2.2.2.1
  have ho2 := lt_sok.app.mp ho
  obtain ⟨lv, hlv, -⟩ := hl.1
  have hcw : CallB R s args M.1.cls idx M'.1 M'.2.1 M'.2.2.1 M'.2.2.2 (lt_ws M') (lt_rm d mc' ms') mc' ms' n := by
    refine callB_of n hts (lt_goodIn (M := M) me1) rfl rfl rfl (hts _ me1.2.1) (hts _ lk) ⟨me1.2.2.1.1, me1.2.2.1.2, me1.2.2.2.1⟩ ⟨?_, ?_⟩
    · show d + 1 ≤ R.frames; exact hRm.1
    · show 8 + (M'.2.2.1 + 11) + 40 * d ≤ R.locals
      have := me1.2.2.2.2
      omega
  have hrun := va_runS (As := as.map (lt_tr ad)) (rest := st.map (lt_tr ad)) (H := H) (locs := locs) (cells := ck) (slots := cn) (e := e) (below := below) (meth := meth) (g := F0 m pc ls ((as.reverse ++ st).map (lt_tr ad))) C.1 (hR D dA ad H.size (lt_sok.rev ho2.1)) ⟨hcw, hts _ me2⟩
    ⟨lt_blind, fun U hU hW => ⟨rfl, lt_callpre C Wd hU hW⟩⟩ rfl (by rw [List.length_map]; exact hn) hlv.1 (by show List.map _ _ = _; rw [List.map_append, List.map_reverse]) (lv_room (by rw [ho2.2.cat ad]; exact hst)) hd ⟨by omega, by omega⟩
  refine lt_after C Wd hrun (fun r sh' σ' ad' H1 locs1 hq hn9 had Wd1 => ?_)
  have := kk r sh' σ' hq p e R s m args below meth c H1 locs1 Z D dA ad0 ad' A N0 ls C Wd1 (hl.same had (by omega)) (lt_ints_ok (ho2.2.mono (by omega))) hr
  rw [lt_ints, ho2.2.same had] at this
  exact this
theorem g_callI {a idx n mc' ms' pc2 : Nat} {M' : lt_M} {as stk : List Value} {Q' : lt_Q} (hR : lt_R l d mc' ms' M' sh σ (.ref a :: as) Q') (hret : M'.2.2.2 = none) (me : lt_meI M' n) (lk : Cond.methodLink M.1.cls idx M'.1 ∈ lt_tb)
    (hn : as.length = n) (hstk : stk = as.reverse ++ .ref a :: st) (hst : st.length ≤ 8) (hcell : ck + mc' ≤ mc ∧ cn + ms' ≤ ms) (hd : decode M.2.1 pc = .ok (.invokespecial idx, 3)) (he : pc + 3 = pc2)
    (kk : ∀ (r : Option Int32) (sh' : lt_H) (σ' : lt_S), Q' r sh' σ' → lt_G l (d + 1) mc ms M (ck + mc') (cn + ms') sh' σ' pc2 L (r.toList.map Value.int ++ st) Q) : lt_G l (d + 1) mc ms M ck cn sh σ pc L stk Q := by
  subst he
  subst hstk
  intro p e R s m args below meth c H locs Z D dA ad0 ad A N0 ls C Wd hl ho hr
  obtain ⟨me1, me2, me3⟩ := me
  have hts := C.1.2.2.2.2
  have hRm := C.2.2.2.2.2.2.1
  have ho2 := lt_sok.app.mp ho
  obtain ⟨lv, hlv, -⟩ := hl.1
  obtain ⟨My, Mc, Ml, Mr⟩ := M'
  cases hret
  have hcw : CallB R s args M.1.cls idx My Mc Ml none (lt_ws (My, Mc, Ml, none)) (lt_rm d mc' ms') mc' ms' n := by
    refine callB_of n hts (lt_goodIn (M := M) me1) rfl rfl rfl (hts _ me1.2.1) (hts _ lk) ⟨me1.2.2.1.1, me1.2.2.1.2, me1.2.2.2.1⟩ ⟨?_, ?_⟩
    · show d + 1 ≤ R.frames; exact hRm.1
    · show 8 + (Ml + 11) + 40 * d ≤ R.locals
      have : Ml ≤ 21 := me1.2.2.2.2
      omega
  have hrun := va_runI (b := ad a) (As := as.map (lt_tr ad)) (rest := st.map (lt_tr ad)) (H := H) (locs := locs) (cells := ck) (slots := cn) (e := e) (below := below) (meth := meth) (g := F0 m pc ls ((as.reverse ++ .ref a :: st).map (lt_tr ad))) C.1 (hR D dA ad H.size ⟨ho2.2.1, lt_sok.rev ho2.1⟩) ⟨hcw, me3, hts _ me2⟩
    ⟨lt_blind, fun U hU hW => ⟨rfl, lt_callpre C Wd hU hW⟩⟩ rfl (by rw [List.length_map]; exact hn) hlv.1 (by show List.map _ _ = _; rw [List.map_append, List.map_reverse]; rfl) (lv_room (by rw [ho2.2.2.cat ad]; exact hst)) hd ⟨by omega, by omega⟩
  refine lt_after C Wd hrun (fun r sh' σ' ad' H1 locs1 hq hn9 had Wd1 => ?_)
  have := kk r sh' σ' hq p e R s m args below meth c H1 locs1 Z D dA ad0 ad' A N0 ls C Wd1 (hl.same had (by omega)) (lt_ints_ok (ho2.2.2.mono (by omega))) hr
  rw [lt_ints, ho2.2.2.same had] at this
  exact this
/-- the constructor of a nest mate -/
theorem g_callIN {a idx n mc' ms' pc2 : Nat} {host : String} {M' : lt_M} {as stk : List Value} {Q' : lt_Q} (hR : lt_R l d mc' ms' M' sh σ (.ref a :: as) Q') (hret : M'.2.2.2 = none) (me : lt_meI M' n) (lk : ∀ U, lt_N U → va_Nw (.methodLinkNest M.1.cls idx M'.1 host) U)
    (hn : as.length = n) (hstk : stk = as.reverse ++ .ref a :: st) (hst : st.length ≤ 8) (hcell : ck + mc' ≤ mc ∧ cn + ms' ≤ ms) (hd : decode M.2.1 pc = .ok (.invokespecial idx, 3)) (he : pc + 3 = pc2)
    (kk : ∀ (r : Option Int32) (sh' : lt_H) (σ' : lt_S), Q' r sh' σ' → lt_G l (d + 1) mc ms M (ck + mc') (cn + ms') sh' σ' pc2 L (r.toList.map Value.int ++ st) Q) : lt_G l (d + 1) mc ms M ck cn sh σ pc L stk Q := by
  subst he
  subst hstk
  intro p e R s m args below meth c H locs Z D dA ad0 ad A N0 ls C Wd hl ho hr
  obtain ⟨me1, me2, me3⟩ := me
  have hts := C.1.2.2.2.2
  have hRm := C.2.2.2.2.2.2.1
  have ho2 := lt_sok.app.mp ho
  obtain ⟨lv, hlv, -⟩ := hl.1
  obtain ⟨My, Mc, Ml, Mr⟩ := M'
  cases hret
  have hcw : va_CN R s args M.1.cls idx My host Mc Ml none (lt_ws (My, Mc, Ml, none)) (lt_rm d mc' ms') mc' ms' n := by
    refine va_cnB n hts (lt_goodIn (M := M) me1) rfl rfl rfl (lk s C.2.2.2.2.2.2.2.2.2.2.2.2.2.2.2) (hts _ me1.2.1) ⟨me1.2.2.1.1, me1.2.2.1.2, me1.2.2.2.1⟩ ⟨?_, ?_⟩
    · show d + 1 ≤ R.frames; exact hRm.1
    · show 8 + (Ml + 11) + 40 * d ≤ R.locals
      have : Ml ≤ 21 := me1.2.2.2.2
      omega
  have hrun := va_runIN (b := ad a) (As := as.map (lt_tr ad)) (rest := st.map (lt_tr ad)) (H := H) (locs := locs) (cells := ck) (slots := cn) (e := e) (below := below) (meth := meth) (g := F0 m pc ls ((as.reverse ++ .ref a :: st).map (lt_tr ad))) C.1 (hR D dA ad H.size ⟨ho2.2.1, lt_sok.rev ho2.1⟩) ⟨hcw, me3, hts _ me2⟩
    ⟨lt_blind, fun U hU hW => ⟨rfl, lt_callpre C Wd hU hW⟩⟩ rfl (by rw [List.length_map]; exact hn) hlv.1 (by show List.map _ _ = _; rw [List.map_append, List.map_reverse]; rfl) (lv_room (by rw [ho2.2.2.cat ad]; exact hst)) hd ⟨by omega, by omega⟩
  refine lt_after C Wd hrun (fun r sh' σ' ad' H1 locs1 hq hn9 had Wd1 => ?_)
  have := kk r sh' σ' hq p e R s m args below meth c H1 locs1 Z D dA ad0 ad' A N0 ls C Wd1 (hl.same had (by omega)) (lt_ints_ok (ho2.2.2.mono (by omega))) hr
  rw [lt_ints, ho2.2.2.same had] at this
  exact this
/-- a method of a text's: the receiver lies outside the world -/
theorem g_callX {i idx n mc' ms' pc2 : Nat} {M' : lt_M} {as stk : List Value} {Q' : lt_Q} (hi : i < 2) (hR : lt_R l d mc' ms' M' sh σ (.ref (1 + i) :: as) Q') (me : lt_meV M' n) (lk : Cond.methodLink M.1.cls idx M'.1 ∈ lt_tb) (hcl : M'.1.cls = "java/lang/String")
    (hn : as.length = n) (hstk : stk = as.reverse ++ .ref (1 + i) :: st) (hst : st.length ≤ 8) (hcell : ck + mc' ≤ mc ∧ cn + ms' ≤ ms) (hd : decode M.2.1 pc = .ok (.invokevirtual idx, 3)) (he : pc + 3 = pc2)
    (kk : ∀ (r : Option Int32) (sh' : lt_H) (σ' : lt_S), Q' r sh' σ' → lt_G l (d + 1) mc ms M (ck + mc') (cn + ms') sh' σ' pc2 L (r.toList.map Value.int ++ st) Q) : lt_G l (d + 1) mc ms M ck cn sh σ pc L stk Q := by
  subst he
  subst hstk
  intro p e R s m args below meth c H locs Z D dA ad0 ad A N0 ls C Wd hl ho hr
  obtain ⟨me1, me2, me3⟩ := me
  have hts := C.1.2.2.2.2
  have hRm := C.2.2.2.2.2.2.1
  have ho2 := lt_sok.app.mp ho
  obtain ⟨lv, hlv, -⟩ := hl.1
  have e0 : ad (1 + i) = ad0 (1 + i) := Wd.1 _ (by omega)
  have hS := C.2.2.2.2.2.2.2.2.2.2.1
  have hrc := vk_recv (i := i) hS hi Wd.2.2.2.2.2
  have hcw : CallW R s args M.1.cls M'.1.cls idx M'.1 M'.2.1 M'.2.2.1 M'.2.2.2 (lt_ws M') (lt_rm d mc' ms') mc' ms' n := by
    refine ⟨callB_of n hts (lt_goodIn (M := M) me1) rfl rfl rfl (hts _ me1.2.1) (hts _ lk) ⟨me1.2.2.1.1, me1.2.2.1.2, me1.2.2.2.1⟩ ⟨?_, ?_⟩, hts _ me2, hts _ me3⟩
    · show d + 1 ≤ R.frames; exact hRm.1
    · show 8 + (M'.2.2.1 + 11) + 40 * d ≤ R.locals
      have := me1.2.2.2.2
      omega
  have hrun := va_runV (b := ad (1 + i)) (As := as.map (lt_tr ad)) (rest := st.map (lt_tr ad)) (H := H) (locs := locs) (cells := ck) (slots := cn) (e := e) (below := below) (meth := meth) (g := F0 m pc ls ((as.reverse ++ .ref (1 + i) :: st).map (lt_tr ad))) C.1 (hR D dA ad H.size ⟨ho2.2.1, lt_sok.rev ho2.1⟩) hcw
    ⟨lt_blind, by rw [e0, hcl]; exact hrc, fun U hU hW => ⟨rfl, lt_callpre C Wd hU hW⟩⟩ rfl (by rw [List.length_map]; exact hn) hlv.1 (by show List.map _ _ = _; rw [List.map_append, List.map_reverse]; rfl) (lv_room (by rw [ho2.2.2.cat ad]; exact hst)) hd ⟨by omega, by omega⟩
  refine lt_after C Wd hrun (fun r sh' σ' ad' H1 locs1 hq hn9 had Wd1 => ?_)
  have := kk r sh' σ' hq p e R s m args below meth c H1 locs1 Z D dA ad0 ad' A N0 ls C Wd1 (hl.same had (by omega)) (lt_ints_ok (ho2.2.2.mono (by omega))) hr
  rw [lt_ints, ho2.2.2.same had] at this
  exact this
/-! new cells -/
theorem lt_grow {q : Nat} {c0 : lt_C} (Wd : lt_Wd D dA ad0 ad A N0 sh σ s H locs) (hc0 : lt_cok (10 + sh.length) c0) {H1 : Heap} {f : Nat → Int32}
    (hP : va_P D vwCl (lt_w dA ad σ 10 sh ++ [(q, lt_cell dA ad c0 f)]) H1) (hD : va_D A (lt_w dA ad σ 10 sh ++ [(q, lt_cell dA ad c0 f)])) (hS : va_S A s.heap H1 locs) :
    lt_Wd D dA ad0 (fun a => if a = 10 + sh.length then q else ad a) A N0 (sh ++ [c0]) (lt_ur σ (10 + sh.length) f) s H1 locs ∧ ∀ a, a < 10 + sh.length → (fun a => if a = 10 + sh.length then q else ad a) a = ad a := by
  have he : ∀ a, a < 10 + sh.length → (fun a => if a = 10 + sh.length then q else ad a) a = ad a := fun a ha => if_neg (by omega)
  have hw : lt_w dA (fun a => if a = 10 + sh.length then q else ad a) (lt_ur σ (10 + sh.length) f) 10 (sh ++ [c0]) = lt_w dA ad σ 10 sh ++ [(q, lt_cell dA ad c0 f)] := by
    rw [lt_w_push, lt_w_same he sh 10 (Nat.le_refl _) Wd.2.2.1]
    rw [lt_w_ext (σ := lt_ur σ (10 + sh.length) f) (σ' := σ) sh 10 (fun b _ h2 => if_neg (by omega))]
    rw [lt_cell_same he dA c0 _ hc0]
    simp [lt_ur]
  refine ⟨⟨fun a ha => (he a (by have := Wd.2.1; omega)).trans (Wd.1 a ha), by rw [List.length_append]; have := Wd.2.1; omega, ?_, by rw [hw]; exact hP, by rw [hw]; exact hD, hS⟩, he⟩
  intro k c hk
  rw [List.length_append]
  by_cases hk2 : k < sh.length
  · rw [List.getElem?_append_left hk2] at hk
    exact (Wd.2.2.1 k c hk).mono (by omega)
  · rw [List.getElem?_append_right (by omega)] at hk
    have hz : k - sh.length < 1 := (List.getElem?_eq_some_iff.mp hk).1
    rw [show k - sh.length = 0 by omega] at hk
    cases hk
    exact hc0.mono (by omega)
theorem g_newa {n N t idx pc2 : Nat} {ty : FieldType} {aty : ArrayType} (ht : (lt_tys (fun _ => 0))[t]? = some (0, ty)) (ht3 : t < 3) (hty : newarray.typeOf aty = ty) (hdef : defaultValue ty = .int 0) (lk : Cond.arrayClass ty ∈ lt_tb) (hn : N < 2 ^ 20) (hb : N * componentBytes ty ≤ 536870912) (hcell : ck + 1 ≤ mc ∧ cn + N ≤ ms) (hd : decode M.2.1 pc = .ok (.newarray aty, 2)) (he : pc + 2 = pc2)
    (kk : lt_G l d mc ms M (ck + 1) (cn + N) (sh ++ [.inl (t, N)]) (lt_ur σ (10 + sh.length) (fun _ => 0)) pc2 L (.ref (10 + sh.length) :: st) Q) : lt_G l d mc ms M ck cn sh σ pc L (.int (nI N) :: st) Q := by
  subst he
  intro p e R s m args below meth c H locs Z D dA ad0 ad A N0 ls C Wd hl ho hr
  have hts := C.1.2.2.2.2
  have hRm := C.2.2.2.2.2.2.1
  have e1 : (nI N).toNatClampNeg = N := nI_clamp (by omega)
  refine va_newa (atype := aty) (ty := ty) (a0 := (N, .inl (fun _ => 0))) (N' := N) C.1.1 C.1.2.1 (by rw [hty]; exact hts _ lk) hty C.2.2.2.2.1 Wd.2.2.2.1 Wd.2.2.2.2.1 Wd.2.2.2.2.2 C.2.2.2.2.2.1 (fun cA => by rw [hdef]; rfl) (nI_pos (by omega)) e1 hb (by omega) (by omega) hd (fun q cA H1 hK hP hD hS => ?_)
  have hcA : cA = dA t := by
    have h1 := (hK.2 4 (cA, ty) rfl).2
    have h2 := (C.2.2.2.2.1.2 t (dA t, ty) (by rcases (show t = 0 ∨ t = 1 ∨ t = 2 by omega) with rfl | rfl | rfl <;> cases ht <;> rfl)).2
    rcases (show t = 0 ∨ t = 1 ∨ t = 2 by omega) with rfl | rfl | rfl <;> cases ht <;> exact Option.some.inj (h1.symm.trans h2)
  subst hcA
  obtain ⟨Wd1, had⟩ := lt_grow (c0 := .inl (t, N)) (f := fun _ => 0) Wd trivial hP hD hS
  have := kk p e R s m args below meth c H1 locs Z D dA ad0 _ A N0 ls C Wd1 (hl.same had (by rw [List.length_append]; omega)) ⟨by show 10 + sh.length < _; rw [List.length_append]; simp, ho.2.mono (by rw [List.length_append]; omega)⟩ hr
  rw [List.map_cons, ho.2.same had] at this
  rw [show lt_tr (fun a => if a = 10 + sh.length then q else ad a) (.ref (10 + sh.length)) = .ref q from congrArg Value.ref (if_pos rfl)] at this
  exact this
theorem g_newq {N idx pc2 : Nat} (lk : Cond.classLink M.1.cls idx RX2 ∈ lt_tb) (hn : N < 2 ^ 20) (hcell : ck + 1 ≤ mc ∧ cn + N ≤ ms) (hd : decode M.2.1 pc = .ok (.anewarray idx, 3)) (he : pc + 3 = pc2)
    (kk : lt_G l d mc ms M (ck + 1) (cn + N) (sh ++ [.inr (.inl (List.replicate N none))]) σ pc2 L (.ref (10 + sh.length) :: st) Q) : lt_G l d mc ms M ck cn sh σ pc L (.int (nI N) :: st) Q := by
  subst he
  intro p e R s m args below meth c H locs Z D dA ad0 ad A N0 ls C Wd hl ho hr
  have hts := C.1.2.2.2.2
  have hRm := C.2.2.2.2.2.2.1
  have e1 : (nI N).toNatClampNeg = N := nI_clamp (by omega)
  refine va_newq (C := RX2) (N' := N) C.1.1 C.1.2.1 C.1.2.2.2.1 (hts _ lk) C.2.2.2.2.2.2.2.2.2.2.2.2.2.2.2.2.2.2.2 C.2.2.2.2.1 Wd.2.2.2.1 Wd.2.2.2.2.1 Wd.2.2.2.2.2 C.2.2.2.2.2.1 (nI_pos (by omega)) e1 (by omega) (by omega) (by omega) hd (fun q cA H1 hK hP hD hS => ?_)
  have hcA : cA = dA 3 := by
    obtain ⟨k1, c1, -, -, -, h1⟩ := (hK.2 4 (cA, .object RX2) rfl).2
    obtain ⟨k2, c2, -, -, -, h2⟩ := (C.2.2.2.2.1.2 3 (dA 3, .object RX2) rfl).2
    exact Option.some.inj (h1.symm.trans h2)
  subst hcA
  have hce : lt_cell dA ad (.inr (.inl (List.replicate N none))) (σ (10 + sh.length)) = .inl (dA 3, N, .inr (.inr (.inr (.inr (fun _ => none))))) := by
    show Sum.inl (dA 3, (List.replicate N (none : Option Nat)).length, _) = _
    rw [List.length_replicate]
    congr 7
    funext k
    have : (List.replicate N (none : Option Nat)).getD k none = none := by
      rw [List.getD_eq_getElem?_getD]
      cases e : (List.replicate N (none : Option Nat))[k]? with
      | none => rfl
      | some v =>
        have := List.mem_of_getElem? e
        simp at this
        rw [this.2]; rfl
    rw [this]; rfl
  rw [← hce] at hP hD
  have hc0 : lt_cok (10 + sh.length) (.inr (.inl (List.replicate N none))) := by
    intro k a e
    rw [List.getD_eq_getElem?_getD] at e
    cases e2 : (List.replicate N (none : Option Nat))[k]? with
    | none => rw [e2] at e; cases e
    | some v =>
      have := List.mem_of_getElem? e2
      simp at this
      rw [e2, this.2] at e; cases e
  obtain ⟨Wd1, had⟩ := lt_grow (c0 := .inr (.inl (List.replicate N none))) (f := σ (10 + sh.length)) Wd hc0 hP hD hS
  have hse : lt_ur σ (10 + sh.length) (σ (10 + sh.length)) = σ := by
    funext b
    by_cases hb : b = 10 + sh.length
    · subst hb; exact if_pos rfl
    · exact if_neg hb
  rw [hse] at Wd1
  have := kk p e R s m args below meth c H1 locs Z D dA ad0 _ A N0 ls C Wd1 (hl.same had (by rw [List.length_append]; omega)) ⟨by show 10 + sh.length < _; rw [List.length_append]; simp, ho.2.mono (by rw [List.length_append]; omega)⟩ hr
  rw [List.map_cons, ho.2.same had] at this
  rw [show lt_tr (fun a => if a = 10 + sh.length then q else ad a) (.ref (10 + sh.length)) = .ref q from congrArg Value.ref (if_pos rfl)] at this
  exact this
/-- a new object: fields null (constants of the shape) or 0 -/
theorem g_new {idx ci pc2 : Nat} {C0 : vw_C} {fs : List (Option Value)} (hc : vwCl[ci]? = some C0) (co : lt_co C0) (lk : Cond.classLink M.1.cls idx C0.1 ∈ lt_tb) (w1 : Cond.instantiable C0.1 C0.2.2 ∈ lt_tb) (w2 : Cond.initialized C0.1 ∈ lt_tb) (hfs : ∀ j, j < C0.2.2 → ∀ ty, parseFieldDescriptor (C0.2.1 j).2.2.1 = some ty → defaultValue ty = vp_V (lt_fs (fun a => a) (fun _ => 0) 0 fs) j) (hnull : ∀ (k : Nat) (v : Value), fs[k]? = some (some v) → v = .null) (hcell : ck + 1 ≤ mc ∧ cn + C0.2.2 ≤ ms) (hd : decode M.2.1 pc = .ok (.new idx, 3)) (he : pc + 3 = pc2)
    (kk : lt_G l d mc ms M (ck + 1) (cn + C0.2.2) (sh ++ [.inr (.inr (ci, fs))]) (lt_ur σ (10 + sh.length) (fun _ => 0)) pc2 L (.ref (10 + sh.length) :: st) Q) : lt_G l d mc ms M ck cn sh σ pc L st Q := by
  subst he
  intro p e R s m args below meth c H locs Z D dA ad0 ad A N0 ls C Wd hl ho hr
  have hts := C.1.2.2.2.2
  have hRm := C.2.2.2.2.2.2.1
  obtain ⟨hw, ⟨ty0, hty⟩, hnm⟩ := co
  have hc0 : lt_cok 0 (.inr (.inr (ci, fs))) := by
    intro k v h
    rw [hnull k v h]
    exact trivial
  have hfe : lt_fs (fun a => a) (fun _ => 0) 0 fs = lt_fs ad (fun _ => 0) 0 fs := lt_fs_same (N := 0) (fun a h => by omega) (fun _ => 0) fs 0 hc0
  refine va_new (ci := ci) (fs := lt_fs ad (fun _ => 0) 0 fs) (C := C0.1) (T := C0.2.1) (N := C0.2.2) C.1.1 C.1.2.1 hts hw ty0 hty C.1.2.2.2.1 (hts _ lk) (hts _ w1) (hts _ w2) C.2.2.2.2.1 Wd.2.2.2.1 Wd.2.2.2.2.1 Wd.2.2.2.2.2 C.2.2.2.2.2.1 hc (fun j hj => by rw [← hfe]; exact hfs j hj _ (hty j hj)) (by omega) (by omega) hd (fun q H1 hP hD hS => ?_)
  obtain ⟨Wd1, had⟩ := lt_grow (c0 := .inr (.inr (ci, fs))) (f := fun _ => 0) Wd (hc0.mono (Nat.zero_le _)) hP hD hS
  have := kk p e R s m args below meth c H1 locs Z D dA ad0 _ A N0 ls C Wd1 (hl.same had (by rw [List.length_append]; omega)) ⟨by show 10 + sh.length < _; rw [List.length_append]; simp, ho.mono (by rw [List.length_append]; omega)⟩ hr
  rw [List.map_cons, ho.same had] at this
  rw [show lt_tr (fun a => if a = 10 + sh.length then q else ad a) (.ref (10 + sh.length)) = .ref q from congrArg Value.ref (if_pos rfl)] at this
  exact this
/-- a reference into a row of Plan -/
theorem g_aast {a b j ci pc2 : Nat} {rs : List (Option Nat)} {fs : List (Option Value)} (sh2 : lt_H) (hs : lt_at sh a = some (.inr (.inl rs))) (hj : j < rs.length) (hn : rs.length < 2 ^ 31) (hb : lt_at sh b = some (.inr (.inr (2, fs)))) (h2 : sh.set (a - 10) (.inr (.inl (rs.set j (some b)))) = sh2) (hd : decode M.2.1 pc = .ok (.aastore, 1)) (he : pc + 1 = pc2)
    (kk : lt_G l d mc ms M ck cn sh2 σ pc2 L st Q) : lt_G l d mc ms M ck cn sh σ pc L (.ref b :: .int (nI j) :: .ref a :: st) Q := by
  subst he
  obtain ⟨i, rfl, hi⟩ := lt_at_get hs
  obtain ⟨i2, rfl, hi2⟩ := lt_at_get hb
  rw [show 10 + i - 10 = i by omega] at h2
  intro p e R s m args below meth c H locs Z D dA ad0 ad A N0 ls C Wd hl ho hr
  have e1 : (nI j).toNatClampNeg = j := nI_clamp (by omega)
  have hlen : sh2.length = sh.length := by rw [← h2, List.length_set]
  refine va_astq (r := (RX2, TX2, 4)) (v := ad (10 + i2)) (vs := lt_fs ad (σ (10 + i2)) 0 fs) (f := fun k => (rs.getD k none).map ad) C.1.1 C.1.2.1 C.2.2.2.2.1 Wd.2.2.2.1 Wd.2.2.2.2.1 Wd.2.2.2.2.2 i 3 i2 2 (cA := dA 3) (n := rs.length) (by rw [lt_w_get, hi]; rfl) rfl (by rw [lt_w_get, hi2]; rfl) rfl (vp_in_nI hj hn) hd (fun H1 locs1 hP hD hS => ?_)
  have hset : (lt_w dA ad σ 10 sh).set i (ad (10 + i), .inl (dA 3, rs.length, .inr (.inr (.inr (.inr (va_up (fun k => (rs.getD k none).map ad) (nI j).toNatClampNeg (some (ad (10 + i2))))))))) = lt_w dA ad σ 10 sh2 := by
    have hx := lt_w_set (dA := dA) (ad := ad) (σ := σ) (.inr (.inl (rs.set j (some (10 + i2))))) (σ (10 + i)) sh 10 i
    rw [h2] at hx
    have hce : lt_cell dA ad (.inr (.inl (rs.set j (some (10 + i2))))) (σ (10 + i)) = .inl (dA 3, rs.length, .inr (.inr (.inr (.inr (va_up (fun k => (rs.getD k none).map ad) (nI j).toNatClampNeg (some (ad (10 + i2)))))))) := by
      show Sum.inl (dA 3, (rs.set j (some (10 + i2))).length, _) = _
      rw [List.length_set, e1]
      congr 7
      funext k
      by_cases hk : j = k
      · subst hk
        rw [List.getD_eq_getElem?_getD, List.getElem?_set_self hj]
        simp [va_up]
      · rw [List.getD_eq_getElem?_getD, List.getElem?_set_ne hk]
        simp [va_up, Ne.symm hk, List.getD_eq_getElem?_getD]
    rw [hce] at hx
    refine hx.trans (lt_w_ext sh2 10 (fun b _ _ => ?_))
    by_cases hb : b = 10 + i
    · subst hb; exact if_pos rfl
    · exact if_neg hb
  rw [hset] at hP hD
  have hok : lt_hok (10 + sh2.length) sh2 := by
    intro j2 c0 hj2
    rw [hlen]
    rw [← h2] at hj2
    by_cases e9 : i = j2
    · subst e9
      rw [List.getElem?_set_self (List.getElem?_eq_some_iff.mp hi).1] at hj2
      cases hj2
      intro k2 v hv
      by_cases ek : j = k2
      · subst ek
        rw [List.getD_eq_getElem?_getD, List.getElem?_set_self hj] at hv
        cases hv
        exact ho.1
      · rw [List.getD_eq_getElem?_getD, List.getElem?_set_ne ek] at hv
        exact Wd.2.2.1 i _ hi k2 v (by rw [List.getD_eq_getElem?_getD]; exact hv)
    · rw [List.getElem?_set_ne e9] at hj2
      exact Wd.2.2.1 j2 c0 hj2
  exact kk p e R s m args below meth c H1 locs1 Z D dA ad0 ad A N0 ls C ⟨Wd.1, by rw [hlen]; exact Wd.2.1, hok, hP, hD, hS⟩ (by rw [hlen]; exact hl) (by rw [hlen]; exact ho.2.2.2) hr
/-- Object's own constructor -/
theorem g_objInit {a idx pc2 : Nat} (lk : Cond.methodLink M.1.cls idx objectInit ∈ lt_tb) (w1 : Cond.instanceMethod objectInit ∈ lt_tb) (w2 : Cond.code objectInit ⟨#[0xb1]⟩ 1 none ∈ lt_tb) (hst : st.length ≤ 8) (hdp : 1 ≤ d) (hd : decode M.2.1 pc = .ok (.invokespecial idx, 3)) (he : pc + 3 = pc2) (kk : lt_G l d mc ms M ck cn sh σ pc2 L st Q) : lt_G l d mc ms M ck cn sh σ pc L (.ref a :: st) Q := by
  subst he
  intro p e R s m args below meth c H locs Z D dA ad0 ad A N0 ls C Wd hl ho hr
  have hts := C.1.2.2.2.2
  have hRm := C.2.2.2.2.2.2.1
  obtain ⟨lv, hlv, -⟩ := hl.1
  refine W.objInit (g := F0 m pc ls (.ref (ad a) :: st.map (lt_tr ad))) C.1.1 C.1.2.1 C.1.2.2.2.1 (hts _ lk) (hts _ w1) (hts _ w2) rfl (by rw [C.1.2.2.1]; exact hlv.1) rfl hd (by omega) ?_ ?_
  · have := lv_room (m := m) (pc := pc) (ls := ls) (rest := .ref (ad a) :: st.map (lt_tr ad)) (st := st.map (lt_tr ad)) (by rw [ho.2.cat ad]; exact hst)
    omega
  · exact kk p e R s m args below meth c H locs Z D dA ad0 ad A N0 ls C Wd hl ho.2 hr
end LT3
end
section
/-! what the tables say, by places -/
theorem lt_in (i : Nat) {w : Cond} (h : lw_tbl[i]? = some w) (g : goodWord w = true) : w ∈ lt_tb := List.mem_filter.mpr ⟨List.mem_of_getElem? h, g⟩
theorem coX0_w : ∀ w ∈ u_ws RX0 TX0 3, w ∈ lt_tb := by
  have e : u_ws RX0 TX0 3 = [u_lay RX0 TX0 0, u_lay RX0 TX0 1, u_lay RX0 TX0 2] := by rfl
  rw [e]
  exact List.forall_mem_cons.mpr ⟨lt_in 206 (by decide +kernel) (by decide +kernel), List.forall_mem_cons.mpr ⟨lt_in 208 (by decide +kernel) (by decide +kernel), List.forall_mem_cons.mpr ⟨lt_in 210 (by decide +kernel) (by decide +kernel), fun _ h => absurd h List.not_mem_nil⟩⟩⟩
theorem coX0 : lt_co (RX0, TX0, 3) := ⟨coX0_w, ⟨tyX0, tyX0_ok⟩, nmX0⟩
theorem fpX0_0 : lt_fp RX0 0 0 true (.object RX6) := by
  intro r hr; cases hr; exact ⟨by decide +kernel, rfl, fun _ => rfl⟩
theorem fpX0_1 : lt_fp RX0 0 1 true (.object RX2) := by
  intro r hr; cases hr; exact ⟨by decide +kernel, rfl, fun _ => rfl⟩
theorem fpX0_2 : lt_fp RX0 0 2 true (.array .int) := by
  intro r hr; cases hr; exact ⟨by decide +kernel, rfl, fun _ => rfl⟩
theorem coX1_w : ∀ w ∈ u_ws RX1 TX1 3, w ∈ lt_tb := by
  have e : u_ws RX1 TX1 3 = [u_lay RX1 TX1 0, u_lay RX1 TX1 1, u_lay RX1 TX1 2] := by rfl
  rw [e]
  exact List.forall_mem_cons.mpr ⟨lt_in 258 (by decide +kernel) (by decide +kernel), List.forall_mem_cons.mpr ⟨lt_in 260 (by decide +kernel) (by decide +kernel), List.forall_mem_cons.mpr ⟨lt_in 262 (by decide +kernel) (by decide +kernel), fun _ h => absurd h List.not_mem_nil⟩⟩⟩
theorem coX1 : lt_co (RX1, TX1, 3) := ⟨coX1_w, ⟨tyX1, tyX1_ok⟩, nmX1⟩
theorem fpX1_0 : lt_fp RX1 1 0 true (.array (.object RX2)) := by
  intro r hr; cases hr; exact ⟨by decide +kernel, rfl, fun _ => rfl⟩
theorem fpX1_1 (own : String) : lt_fp own 1 1 false (.int) := by
  intro r hr; cases hr; exact ⟨by decide +kernel, rfl, fun h => by cases h⟩
theorem fpX1_2 (own : String) : lt_fp own 1 2 false (.int) := by
  intro r hr; cases hr; exact ⟨by decide +kernel, rfl, fun h => by cases h⟩
theorem coX2_w : ∀ w ∈ u_ws RX2 TX2 4, w ∈ lt_tb := by
  have e : u_ws RX2 TX2 4 = [u_lay RX2 TX2 0, u_lay RX2 TX2 1, u_lay RX2 TX2 2, u_lay RX2 TX2 3] := by rfl
  rw [e]
  exact List.forall_mem_cons.mpr ⟨lt_in 164 (by decide +kernel) (by decide +kernel), List.forall_mem_cons.mpr ⟨lt_in 166 (by decide +kernel) (by decide +kernel), List.forall_mem_cons.mpr ⟨lt_in 168 (by decide +kernel) (by decide +kernel), List.forall_mem_cons.mpr ⟨lt_in 170 (by decide +kernel) (by decide +kernel), fun _ h => absurd h List.not_mem_nil⟩⟩⟩⟩
theorem coX2 : lt_co (RX2, TX2, 4) := ⟨coX2_w, ⟨tyX2, tyX2_ok⟩, nmX2⟩
theorem fpX2_0 : lt_fp RX2 2 0 true (.array .int) := by
  intro r hr; cases hr; exact ⟨by decide +kernel, rfl, fun _ => rfl⟩
theorem fpX2_1 : lt_fp RX2 2 1 true (.array .int) := by
  intro r hr; cases hr; exact ⟨by decide +kernel, rfl, fun _ => rfl⟩
theorem fpX2_2 : lt_fp RX2 2 2 true (.array .int) := by
  intro r hr; cases hr; exact ⟨by decide +kernel, rfl, fun _ => rfl⟩
theorem fpX2_3 : lt_fp RX2 2 3 true (.array .int) := by
  intro r hr; cases hr; exact ⟨by decide +kernel, rfl, fun _ => rfl⟩
theorem coX3_w : ∀ w ∈ u_ws RX3 TX3 5, w ∈ lt_tb := by
  have e : u_ws RX3 TX3 5 = [u_lay RX3 TX3 0, u_lay RX3 TX3 1, u_lay RX3 TX3 2, u_lay RX3 TX3 3, u_lay RX3 TX3 4] := by rfl
  rw [e]
  exact List.forall_mem_cons.mpr ⟨lt_in 185 (by decide +kernel) (by decide +kernel), List.forall_mem_cons.mpr ⟨lt_in 187 (by decide +kernel) (by decide +kernel), List.forall_mem_cons.mpr ⟨lt_in 189 (by decide +kernel) (by decide +kernel), List.forall_mem_cons.mpr ⟨lt_in 191 (by decide +kernel) (by decide +kernel), List.forall_mem_cons.mpr ⟨lt_in 193 (by decide +kernel) (by decide +kernel), fun _ h => absurd h List.not_mem_nil⟩⟩⟩⟩⟩
theorem coX3 : lt_co (RX3, TX3, 5) := ⟨coX3_w, ⟨tyX3, tyX3_ok⟩, nmX3⟩
theorem fpX3_0 : lt_fp RX3 3 0 true (.object RX5) := by
  intro r hr; cases hr; exact ⟨by decide +kernel, rfl, fun _ => rfl⟩
theorem fpX3_1 : lt_fp RX3 3 1 true (.object RX6) := by
  intro r hr; cases hr; exact ⟨by decide +kernel, rfl, fun _ => rfl⟩
theorem fpX3_2 : lt_fp RX3 3 2 true (.object RX2) := by
  intro r hr; cases hr; exact ⟨by decide +kernel, rfl, fun _ => rfl⟩
theorem fpX3_3 : lt_fp RX3 3 3 true (.array .int) := by
  intro r hr; cases hr; exact ⟨by decide +kernel, rfl, fun _ => rfl⟩
theorem fpX3_4 (own : String) : lt_fp own 3 4 false (.int) := by
  intro r hr; cases hr; exact ⟨by decide +kernel, rfl, fun h => by cases h⟩
theorem coX4_w : ∀ w ∈ u_ws RX4 TX4 8, w ∈ lt_tb := by
  have e : u_ws RX4 TX4 8 = [u_lay RX4 TX4 0, u_lay RX4 TX4 1, u_lay RX4 TX4 2, u_lay RX4 TX4 3, u_lay RX4 TX4 4, u_lay RX4 TX4 5, u_lay RX4 TX4 6, u_lay RX4 TX4 7] := by rfl
  rw [e]
  exact List.forall_mem_cons.mpr ⟨lt_in 228 (by decide +kernel) (by decide +kernel), List.forall_mem_cons.mpr ⟨lt_in 230 (by decide +kernel) (by decide +kernel), List.forall_mem_cons.mpr ⟨lt_in 232 (by decide +kernel) (by decide +kernel), List.forall_mem_cons.mpr ⟨lt_in 234 (by decide +kernel) (by decide +kernel), List.forall_mem_cons.mpr ⟨lt_in 236 (by decide +kernel) (by decide +kernel), List.forall_mem_cons.mpr ⟨lt_in 238 (by decide +kernel) (by decide +kernel), List.forall_mem_cons.mpr ⟨lt_in 240 (by decide +kernel) (by decide +kernel), List.forall_mem_cons.mpr ⟨lt_in 242 (by decide +kernel) (by decide +kernel), fun _ h => absurd h List.not_mem_nil⟩⟩⟩⟩⟩⟩⟩⟩
theorem coX4 : lt_co (RX4, TX4, 8) := ⟨coX4_w, ⟨tyX4, tyX4_ok⟩, nmX4⟩
theorem fpX4_0 : lt_fp RX4 4 0 true (.object RX6) := by
  intro r hr; cases hr; exact ⟨by decide +kernel, rfl, fun _ => rfl⟩
theorem fpX4_1 : lt_fp RX4 4 1 true (.object RX2) := by
  intro r hr; cases hr; exact ⟨by decide +kernel, rfl, fun _ => rfl⟩
theorem fpX4_2 : lt_fp RX4 4 2 true (.object RX0) := by
  intro r hr; cases hr; exact ⟨by decide +kernel, rfl, fun _ => rfl⟩
theorem fpX4_3 : lt_fp RX4 4 3 true (.array .int) := by
  intro r hr; cases hr; exact ⟨by decide +kernel, rfl, fun _ => rfl⟩
theorem fpX4_4 : lt_fp RX4 4 4 true (.array .int) := by
  intro r hr; cases hr; exact ⟨by decide +kernel, rfl, fun _ => rfl⟩
theorem fpX4_5 : lt_fp RX4 4 5 true (.array .int) := by
  intro r hr; cases hr; exact ⟨by decide +kernel, rfl, fun _ => rfl⟩
theorem fpX4_6 : lt_fp RX4 4 6 true (.array .int) := by
  intro r hr; cases hr; exact ⟨by decide +kernel, rfl, fun _ => rfl⟩
theorem fpX4_7 (own : String) : lt_fp own 4 7 false (.int) := by
  intro r hr; cases hr; exact ⟨by decide +kernel, rfl, fun h => by cases h⟩
theorem coX5_w : ∀ w ∈ u_ws RX5 TX5 2, w ∈ lt_tb := by
  have e : u_ws RX5 TX5 2 = [u_lay RX5 TX5 0, u_lay RX5 TX5 1] := by rfl
  rw [e]
  exact List.forall_mem_cons.mpr ⟨lt_in 83 (by decide +kernel) (by decide +kernel), List.forall_mem_cons.mpr ⟨lt_in 85 (by decide +kernel) (by decide +kernel), fun _ h => absurd h List.not_mem_nil⟩⟩
theorem coX5 : lt_co (RX5, TX5, 2) := ⟨coX5_w, ⟨tyX5, tyX5_ok⟩, nmX5⟩
theorem fpX5_0 : lt_fp RX5 5 0 true (.array .char) := by
  intro r hr; cases hr; exact ⟨by decide +kernel, rfl, fun _ => rfl⟩
theorem fpX5_1 (own : String) : lt_fp own 5 1 false (.int) := by
  intro r hr; cases hr; exact ⟨by decide +kernel, rfl, fun h => by cases h⟩
theorem coX6_w : ∀ w ∈ u_ws RX6 TX6 8, w ∈ lt_tb := by
  have e : u_ws RX6 TX6 8 = [u_lay RX6 TX6 0, u_lay RX6 TX6 1, u_lay RX6 TX6 2, u_lay RX6 TX6 3, u_lay RX6 TX6 4, u_lay RX6 TX6 5, u_lay RX6 TX6 6, u_lay RX6 TX6 7] := by rfl
  rw [e]
  exact List.forall_mem_cons.mpr ⟨lt_in 123 (by decide +kernel) (by decide +kernel), List.forall_mem_cons.mpr ⟨lt_in 125 (by decide +kernel) (by decide +kernel), List.forall_mem_cons.mpr ⟨lt_in 127 (by decide +kernel) (by decide +kernel), List.forall_mem_cons.mpr ⟨lt_in 129 (by decide +kernel) (by decide +kernel), List.forall_mem_cons.mpr ⟨lt_in 131 (by decide +kernel) (by decide +kernel), List.forall_mem_cons.mpr ⟨lt_in 133 (by decide +kernel) (by decide +kernel), List.forall_mem_cons.mpr ⟨lt_in 135 (by decide +kernel) (by decide +kernel), List.forall_mem_cons.mpr ⟨lt_in 137 (by decide +kernel) (by decide +kernel), fun _ h => absurd h List.not_mem_nil⟩⟩⟩⟩⟩⟩⟩⟩
theorem coX6 : lt_co (RX6, TX6, 8) := ⟨coX6_w, ⟨tyX6, tyX6_ok⟩, nmX6⟩
theorem fpX6_0 (own : String) : lt_fp own 6 0 false (.int) := by
  intro r hr; cases hr; exact ⟨by decide +kernel, rfl, fun h => by cases h⟩
theorem fpX6_1 (own : String) : lt_fp own 6 1 false (.int) := by
  intro r hr; cases hr; exact ⟨by decide +kernel, rfl, fun h => by cases h⟩
theorem fpX6_2 (own : String) : lt_fp own 6 2 false (.int) := by
  intro r hr; cases hr; exact ⟨by decide +kernel, rfl, fun h => by cases h⟩
theorem fpX6_3 (own : String) : lt_fp own 6 3 false (.int) := by
  intro r hr; cases hr; exact ⟨by decide +kernel, rfl, fun h => by cases h⟩
theorem fpX6_4 : lt_fp RX6 6 4 true (.array .int) := by
  intro r hr; cases hr; exact ⟨by decide +kernel, rfl, fun _ => rfl⟩
theorem fpX6_5 : lt_fp RX6 6 5 true (.array .int) := by
  intro r hr; cases hr; exact ⟨by decide +kernel, rfl, fun _ => rfl⟩
theorem fpX6_6 : lt_fp RX6 6 6 true (.array .int) := by
  intro r hr; cases hr; exact ⟨by decide +kernel, rfl, fun _ => rfl⟩
theorem fpX6_7 : lt_fp RX6 6 7 true (.array .int) := by
  intro r hr; cases hr; exact ⟨by decide +kernel, rfl, fun _ => rfl⟩
theorem coX7_w : ∀ w ∈ u_ws RX7 TX7 8, w ∈ lt_tb := by
  have e : u_ws RX7 TX7 8 = [u_lay RX7 TX7 0, u_lay RX7 TX7 1, u_lay RX7 TX7 2, u_lay RX7 TX7 3, u_lay RX7 TX7 4, u_lay RX7 TX7 5, u_lay RX7 TX7 6, u_lay RX7 TX7 7] := by rfl
  rw [e]
  exact List.forall_mem_cons.mpr ⟨lt_in 451 (by decide +kernel) (by decide +kernel), List.forall_mem_cons.mpr ⟨lt_in 453 (by decide +kernel) (by decide +kernel), List.forall_mem_cons.mpr ⟨lt_in 455 (by decide +kernel) (by decide +kernel), List.forall_mem_cons.mpr ⟨lt_in 457 (by decide +kernel) (by decide +kernel), List.forall_mem_cons.mpr ⟨lt_in 459 (by decide +kernel) (by decide +kernel), List.forall_mem_cons.mpr ⟨lt_in 461 (by decide +kernel) (by decide +kernel), List.forall_mem_cons.mpr ⟨lt_in 463 (by decide +kernel) (by decide +kernel), List.forall_mem_cons.mpr ⟨lt_in 465 (by decide +kernel) (by decide +kernel), fun _ h => absurd h List.not_mem_nil⟩⟩⟩⟩⟩⟩⟩⟩
theorem coX7 : lt_co (RX7, TX7, 8) := ⟨coX7_w, ⟨tyX7, tyX7_ok⟩, nmX7⟩
theorem fpX7_0 : lt_fp RX7 7 0 true (.object RX5) := by
  intro r hr; cases hr; exact ⟨by decide +kernel, rfl, fun _ => rfl⟩
theorem fpX7_1 : lt_fp RX7 7 1 true (.object RX6) := by
  intro r hr; cases hr; exact ⟨by decide +kernel, rfl, fun _ => rfl⟩
theorem fpX7_2 : lt_fp RX7 7 2 true (.object RX2) := by
  intro r hr; cases hr; exact ⟨by decide +kernel, rfl, fun _ => rfl⟩
theorem fpX7_3 : lt_fp RX7 7 3 true (.object RX3) := by
  intro r hr; cases hr; exact ⟨by decide +kernel, rfl, fun _ => rfl⟩
theorem fpX7_4 : lt_fp RX7 7 4 true (.object RX3) := by
  intro r hr; cases hr; exact ⟨by decide +kernel, rfl, fun _ => rfl⟩
theorem fpX7_5 : lt_fp RX7 7 5 true (.object RX0) := by
  intro r hr; cases hr; exact ⟨by decide +kernel, rfl, fun _ => rfl⟩
theorem fpX7_6 : lt_fp RX7 7 6 true (.object RX4) := by
  intro r hr; cases hr; exact ⟨by decide +kernel, rfl, fun _ => rfl⟩
theorem fpX7_7 : lt_fp RX7 7 7 true (.object RX1) := by
  intro r hr; cases hr; exact ⟨by decide +kernel, rfl, fun _ => rfl⟩
theorem coX8_w : ∀ w ∈ u_ws RX8 TX8 15, w ∈ lt_tb := by
  have e : u_ws RX8 TX8 15 = [u_lay RX8 TX8 0, u_lay RX8 TX8 1, u_lay RX8 TX8 2, u_lay RX8 TX8 3, u_lay RX8 TX8 4, u_lay RX8 TX8 5, u_lay RX8 TX8 6, u_lay RX8 TX8 7, u_lay RX8 TX8 8, u_lay RX8 TX8 9, u_lay RX8 TX8 10, u_lay RX8 TX8 11, u_lay RX8 TX8 12, u_lay RX8 TX8 13, u_lay RX8 TX8 14] := by rfl
  rw [e]
  exact List.forall_mem_cons.mpr ⟨lt_in 694 (by decide +kernel) (by decide +kernel), List.forall_mem_cons.mpr ⟨lt_in 696 (by decide +kernel) (by decide +kernel), List.forall_mem_cons.mpr ⟨lt_in 698 (by decide +kernel) (by decide +kernel), List.forall_mem_cons.mpr ⟨lt_in 700 (by decide +kernel) (by decide +kernel), List.forall_mem_cons.mpr ⟨lt_in 702 (by decide +kernel) (by decide +kernel), List.forall_mem_cons.mpr ⟨lt_in 704 (by decide +kernel) (by decide +kernel), List.forall_mem_cons.mpr ⟨lt_in 706 (by decide +kernel) (by decide +kernel), List.forall_mem_cons.mpr ⟨lt_in 708 (by decide +kernel) (by decide +kernel), List.forall_mem_cons.mpr ⟨lt_in 710 (by decide +kernel) (by decide +kernel), List.forall_mem_cons.mpr ⟨lt_in 712 (by decide +kernel) (by decide +kernel), List.forall_mem_cons.mpr ⟨lt_in 714 (by decide +kernel) (by decide +kernel), List.forall_mem_cons.mpr ⟨lt_in 716 (by decide +kernel) (by decide +kernel), List.forall_mem_cons.mpr ⟨lt_in 718 (by decide +kernel) (by decide +kernel), List.forall_mem_cons.mpr ⟨lt_in 720 (by decide +kernel) (by decide +kernel), List.forall_mem_cons.mpr ⟨lt_in 722 (by decide +kernel) (by decide +kernel), fun _ h => absurd h List.not_mem_nil⟩⟩⟩⟩⟩⟩⟩⟩⟩⟩⟩⟩⟩⟩⟩
theorem coX8 : lt_co (RX8, TX8, 15) := ⟨coX8_w, ⟨tyX8, tyX8_ok⟩, nmX8⟩
theorem fpX8_0 : lt_fp RX8 8 0 true (.array .int) := by
  intro r hr; cases hr; exact ⟨by decide +kernel, rfl, fun _ => rfl⟩
theorem fpX8_1 : lt_fp RX8 8 1 true (.array .int) := by
  intro r hr; cases hr; exact ⟨by decide +kernel, rfl, fun _ => rfl⟩
theorem fpX8_2 : lt_fp RX8 8 2 true (.array .int) := by
  intro r hr; cases hr; exact ⟨by decide +kernel, rfl, fun _ => rfl⟩
theorem fpX8_3 (own : String) : lt_fp own 8 3 false (.int) := by
  intro r hr; cases hr; exact ⟨by decide +kernel, rfl, fun h => by cases h⟩
theorem fpX8_4 : lt_fp RX8 8 4 true (.array .int) := by
  intro r hr; cases hr; exact ⟨by decide +kernel, rfl, fun _ => rfl⟩
theorem fpX8_5 (own : String) : lt_fp own 8 5 false (.int) := by
  intro r hr; cases hr; exact ⟨by decide +kernel, rfl, fun h => by cases h⟩
theorem fpX8_6 (own : String) : lt_fp own 8 6 false (.int) := by
  intro r hr; cases hr; exact ⟨by decide +kernel, rfl, fun h => by cases h⟩
theorem fpX8_7 : lt_fp RX8 8 7 true (.array .int) := by
  intro r hr; cases hr; exact ⟨by decide +kernel, rfl, fun _ => rfl⟩
theorem fpX8_8 (own : String) : lt_fp own 8 8 false (.int) := by
  intro r hr; cases hr; exact ⟨by decide +kernel, rfl, fun h => by cases h⟩
theorem fpX8_9 : lt_fp RX8 8 9 true (.array .boolean) := by
  intro r hr; cases hr; exact ⟨by decide +kernel, rfl, fun _ => rfl⟩
theorem fpX8_10 : lt_fp RX8 8 10 true (.array .boolean) := by
  intro r hr; cases hr; exact ⟨by decide +kernel, rfl, fun _ => rfl⟩
theorem fpX8_11 : lt_fp RX8 8 11 true (.array .int) := by
  intro r hr; cases hr; exact ⟨by decide +kernel, rfl, fun _ => rfl⟩
theorem fpX8_12 : lt_fp RX8 8 12 true (.array .int) := by
  intro r hr; cases hr; exact ⟨by decide +kernel, rfl, fun _ => rfl⟩
theorem fpX8_13 (own : String) : lt_fp own 8 13 false (.int) := by
  intro r hr; cases hr; exact ⟨by decide +kernel, rfl, fun h => by cases h⟩
theorem fpX8_14 (own : String) : lt_fp own 8 14 false (.int) := by
  intro r hr; cases hr; exact ⟨by decide +kernel, rfl, fun h => by cases h⟩
theorem flX0_15 : lt_fl RX0 15 0 0 := ⟨(RX0, TX0, 3), rfl, coX0, by decide, lt_in 202 (by decide +kernel) (by decide +kernel)⟩
theorem flX0_19 : lt_fl RX0 19 0 1 := ⟨(RX0, TX0, 3), rfl, coX0, by decide, lt_in 203 (by decide +kernel) (by decide +kernel)⟩
theorem flX0_23 : lt_fl RX0 23 6 2 := ⟨(RX6, TX6, 8), rfl, coX6, by decide, lt_in 104 (by decide +kernel) (by decide +kernel)⟩
theorem flX0_29 : lt_fl RX0 29 6 1 := ⟨(RX6, TX6, 8), rfl, coX6, by decide, lt_in 99 (by decide +kernel) (by decide +kernel)⟩
theorem flX0_57 : lt_fl RX0 57 2 0 := ⟨(RX2, TX2, 4), rfl, coX2, by decide, lt_in 148 (by decide +kernel) (by decide +kernel)⟩
theorem flX0_62 : lt_fl RX0 62 2 1 := ⟨(RX2, TX2, 4), rfl, coX2, by decide, lt_in 152 (by decide +kernel) (by decide +kernel)⟩
theorem flX0_65 : lt_fl RX0 65 6 3 := ⟨(RX6, TX6, 8), rfl, coX6, by decide, lt_in 109 (by decide +kernel) (by decide +kernel)⟩
theorem flX0_83 : lt_fl RX0 83 2 3 := ⟨(RX2, TX2, 4), rfl, coX2, by decide, lt_in 162 (by decide +kernel) (by decide +kernel)⟩
theorem flX0_9 : lt_fl RX0 9 0 2 := ⟨(RX0, TX0, 3), rfl, coX0, by decide, lt_in 204 (by decide +kernel) (by decide +kernel)⟩
theorem flX1_11 : lt_fl RX1 11 1 0 := ⟨(RX1, TX1, 3), rfl, coX1, by decide, lt_in 254 (by decide +kernel) (by decide +kernel)⟩
theorem flX1_17 : lt_fl RX1 17 1 1 := ⟨(RX1, TX1, 3), rfl, coX1, by decide, lt_in 255 (by decide +kernel) (by decide +kernel)⟩
theorem flX1_21 : lt_fl RX1 21 1 2 := ⟨(RX1, TX1, 3), rfl, coX1, by decide, lt_in 256 (by decide +kernel) (by decide +kernel)⟩
theorem flX2_15 : lt_fl RX2 15 2 1 := ⟨(RX2, TX2, 4), rfl, coX2, by decide, lt_in 151 (by decide +kernel) (by decide +kernel)⟩
theorem flX2_18 : lt_fl RX2 18 2 2 := ⟨(RX2, TX2, 4), rfl, coX2, by decide, lt_in 155 (by decide +kernel) (by decide +kernel)⟩
theorem flX2_21 : lt_fl RX2 21 2 3 := ⟨(RX2, TX2, 4), rfl, coX2, by decide, lt_in 159 (by decide +kernel) (by decide +kernel)⟩
theorem flX2_9 : lt_fl RX2 9 2 0 := ⟨(RX2, TX2, 4), rfl, coX2, by decide, lt_in 147 (by decide +kernel) (by decide +kernel)⟩
theorem flX3_103 : lt_fl RX3 103 6 5 := ⟨(RX6, TX6, 8), rfl, coX6, by decide, lt_in 116 (by decide +kernel) (by decide +kernel)⟩
theorem flX3_106 : lt_fl RX3 106 6 6 := ⟨(RX6, TX6, 8), rfl, coX6, by decide, lt_in 119 (by decide +kernel) (by decide +kernel)⟩
theorem flX3_109 : lt_fl RX3 109 6 7 := ⟨(RX6, TX6, 8), rfl, coX6, by decide, lt_in 122 (by decide +kernel) (by decide +kernel)⟩
theorem flX3_11 : lt_fl RX3 11 3 3 := ⟨(RX3, TX3, 5), rfl, coX3, by decide, lt_in 183 (by decide +kernel) (by decide +kernel)⟩
theorem flX3_112 : lt_fl RX3 112 2 0 := ⟨(RX2, TX2, 4), rfl, coX2, by decide, lt_in 150 (by decide +kernel) (by decide +kernel)⟩
theorem flX3_117 : lt_fl RX3 117 2 1 := ⟨(RX2, TX2, 4), rfl, coX2, by decide, lt_in 154 (by decide +kernel) (by decide +kernel)⟩
theorem flX3_120 : lt_fl RX3 120 2 2 := ⟨(RX2, TX2, 4), rfl, coX2, by decide, lt_in 158 (by decide +kernel) (by decide +kernel)⟩
theorem flX3_123 : lt_fl RX3 123 2 3 := ⟨(RX2, TX2, 4), rfl, coX2, by decide, lt_in 163 (by decide +kernel) (by decide +kernel)⟩
theorem flX3_129 : lt_fl RX3 129 6 3 := ⟨(RX6, TX6, 8), rfl, coX6, by decide, lt_in 110 (by decide +kernel) (by decide +kernel)⟩
theorem flX3_15 : lt_fl RX3 15 3 4 := ⟨(RX3, TX3, 5), rfl, coX3, by decide, lt_in 184 (by decide +kernel) (by decide +kernel)⟩
theorem flX3_19 : lt_fl RX3 19 3 0 := ⟨(RX3, TX3, 5), rfl, coX3, by decide, lt_in 179 (by decide +kernel) (by decide +kernel)⟩
theorem flX3_23 : lt_fl RX3 23 3 1 := ⟨(RX3, TX3, 5), rfl, coX3, by decide, lt_in 180 (by decide +kernel) (by decide +kernel)⟩
theorem flX3_27 : lt_fl RX3 27 3 2 := ⟨(RX3, TX3, 5), rfl, coX3, by decide, lt_in 182 (by decide +kernel) (by decide +kernel)⟩
theorem flX3_36 : lt_fl RX3 36 5 1 := ⟨(RX5, TX5, 2), rfl, coX5, by decide, lt_in 81 (by decide +kernel) (by decide +kernel)⟩
theorem flX3_70 : lt_fl RX3 70 6 0 := ⟨(RX6, TX6, 8), rfl, coX6, by decide, lt_in 97 (by decide +kernel) (by decide +kernel)⟩
theorem flX3_85 : lt_fl RX3 85 6 1 := ⟨(RX6, TX6, 8), rfl, coX6, by decide, lt_in 101 (by decide +kernel) (by decide +kernel)⟩
theorem flX3_94 : lt_fl RX3 94 6 4 := ⟨(RX6, TX6, 8), rfl, coX6, by decide, lt_in 113 (by decide +kernel) (by decide +kernel)⟩
theorem flX3_97 : lt_fl RX3 97 6 2 := ⟨(RX6, TX6, 8), rfl, coX6, by decide, lt_in 107 (by decide +kernel) (by decide +kernel)⟩
theorem flX4_11 : lt_fl RX4 11 4 3 := ⟨(RX4, TX4, 8), rfl, coX4, by decide, lt_in 222 (by decide +kernel) (by decide +kernel)⟩
theorem flX4_15 : lt_fl RX4 15 4 4 := ⟨(RX4, TX4, 8), rfl, coX4, by decide, lt_in 223 (by decide +kernel) (by decide +kernel)⟩
theorem flX4_18 : lt_fl RX4 18 4 5 := ⟨(RX4, TX4, 8), rfl, coX4, by decide, lt_in 224 (by decide +kernel) (by decide +kernel)⟩
theorem flX4_21 : lt_fl RX4 21 4 6 := ⟨(RX4, TX4, 8), rfl, coX4, by decide, lt_in 225 (by decide +kernel) (by decide +kernel)⟩
theorem flX4_24 : lt_fl RX4 24 4 7 := ⟨(RX4, TX4, 8), rfl, coX4, by decide, lt_in 227 (by decide +kernel) (by decide +kernel)⟩
theorem flX4_28 : lt_fl RX4 28 4 0 := ⟨(RX4, TX4, 8), rfl, coX4, by decide, lt_in 219 (by decide +kernel) (by decide +kernel)⟩
theorem flX4_32 : lt_fl RX4 32 4 1 := ⟨(RX4, TX4, 8), rfl, coX4, by decide, lt_in 220 (by decide +kernel) (by decide +kernel)⟩
theorem flX4_36 : lt_fl RX4 36 4 2 := ⟨(RX4, TX4, 8), rfl, coX4, by decide, lt_in 221 (by decide +kernel) (by decide +kernel)⟩
theorem flX4_47 : lt_fl RX4 47 6 2 := ⟨(RX6, TX6, 8), rfl, coX6, by decide, lt_in 105 (by decide +kernel) (by decide +kernel)⟩
theorem flX4_52 : lt_fl RX4 52 2 2 := ⟨(RX2, TX2, 4), rfl, coX2, by decide, lt_in 156 (by decide +kernel) (by decide +kernel)⟩
theorem flX4_57 : lt_fl RX4 57 2 3 := ⟨(RX2, TX2, 4), rfl, coX2, by decide, lt_in 160 (by decide +kernel) (by decide +kernel)⟩
theorem flX4_60 : lt_fl RX4 60 6 1 := ⟨(RX6, TX6, 8), rfl, coX6, by decide, lt_in 100 (by decide +kernel) (by decide +kernel)⟩
theorem flX4_95 : lt_fl RX4 95 0 2 := ⟨(RX0, TX0, 3), rfl, coX0, by decide, lt_in 205 (by decide +kernel) (by decide +kernel)⟩
theorem flX5_15 : lt_fl RX5 15 5 1 := ⟨(RX5, TX5, 2), rfl, coX5, by decide, lt_in 80 (by decide +kernel) (by decide +kernel)⟩
theorem flX5_9 : lt_fl RX5 9 5 0 := ⟨(RX5, TX5, 2), rfl, coX5, by decide, lt_in 79 (by decide +kernel) (by decide +kernel)⟩
theorem flX6_15 : lt_fl RX6 15 6 1 := ⟨(RX6, TX6, 8), rfl, coX6, by decide, lt_in 98 (by decide +kernel) (by decide +kernel)⟩
theorem flX6_18 : lt_fl RX6 18 6 2 := ⟨(RX6, TX6, 8), rfl, coX6, by decide, lt_in 103 (by decide +kernel) (by decide +kernel)⟩
theorem flX6_21 : lt_fl RX6 21 6 3 := ⟨(RX6, TX6, 8), rfl, coX6, by decide, lt_in 108 (by decide +kernel) (by decide +kernel)⟩
theorem flX6_24 : lt_fl RX6 24 6 4 := ⟨(RX6, TX6, 8), rfl, coX6, by decide, lt_in 112 (by decide +kernel) (by decide +kernel)⟩
theorem flX6_28 : lt_fl RX6 28 6 5 := ⟨(RX6, TX6, 8), rfl, coX6, by decide, lt_in 114 (by decide +kernel) (by decide +kernel)⟩
theorem flX6_31 : lt_fl RX6 31 6 6 := ⟨(RX6, TX6, 8), rfl, coX6, by decide, lt_in 117 (by decide +kernel) (by decide +kernel)⟩
theorem flX6_34 : lt_fl RX6 34 6 7 := ⟨(RX6, TX6, 8), rfl, coX6, by decide, lt_in 120 (by decide +kernel) (by decide +kernel)⟩
theorem flX6_9 : lt_fl RX6 9 6 0 := ⟨(RX6, TX6, 8), rfl, coX6, by decide, lt_in 95 (by decide +kernel) (by decide +kernel)⟩
theorem flX7_10 : lt_fl RX7 10 7 0 := ⟨(RX7, TX7, 8), rfl, coX7, by decide, lt_in 443 (by decide +kernel) (by decide +kernel)⟩
theorem flX7_100 : lt_fl RX7 100 6 0 := ⟨(RX6, TX6, 8), rfl, coX6, by decide, lt_in 96 (by decide +kernel) (by decide +kernel)⟩
theorem flX7_106 : lt_fl RX7 106 1 2 := ⟨(RX1, TX1, 3), rfl, coX1, by decide, lt_in 257 (by decide +kernel) (by decide +kernel)⟩
theorem flX7_109 : lt_fl RX7 109 6 2 := ⟨(RX6, TX6, 8), rfl, coX6, by decide, lt_in 106 (by decide +kernel) (by decide +kernel)⟩
theorem flX7_125 : lt_fl RX7 125 6 5 := ⟨(RX6, TX6, 8), rfl, coX6, by decide, lt_in 115 (by decide +kernel) (by decide +kernel)⟩
theorem flX7_129 : lt_fl RX7 129 6 6 := ⟨(RX6, TX6, 8), rfl, coX6, by decide, lt_in 118 (by decide +kernel) (by decide +kernel)⟩
theorem flX7_132 : lt_fl RX7 132 2 0 := ⟨(RX2, TX2, 4), rfl, coX2, by decide, lt_in 149 (by decide +kernel) (by decide +kernel)⟩
theorem flX7_135 : lt_fl RX7 135 2 1 := ⟨(RX2, TX2, 4), rfl, coX2, by decide, lt_in 153 (by decide +kernel) (by decide +kernel)⟩
theorem flX7_138 : lt_fl RX7 138 2 2 := ⟨(RX2, TX2, 4), rfl, coX2, by decide, lt_in 157 (by decide +kernel) (by decide +kernel)⟩
theorem flX7_141 : lt_fl RX7 141 6 7 := ⟨(RX6, TX6, 8), rfl, coX6, by decide, lt_in 121 (by decide +kernel) (by decide +kernel)⟩
theorem flX7_144 : lt_fl RX7 144 2 3 := ⟨(RX2, TX2, 4), rfl, coX2, by decide, lt_in 161 (by decide +kernel) (by decide +kernel)⟩
theorem flX7_153 : lt_fl RX7 153 6 1 := ⟨(RX6, TX6, 8), rfl, coX6, by decide, lt_in 102 (by decide +kernel) (by decide +kernel)⟩
theorem flX7_19 : lt_fl RX7 19 7 1 := ⟨(RX7, TX7, 8), rfl, coX7, by decide, lt_in 444 (by decide +kernel) (by decide +kernel)⟩
theorem flX7_190 : lt_fl RX7 190 4 6 := ⟨(RX4, TX4, 8), rfl, coX4, by decide, lt_in 226 (by decide +kernel) (by decide +kernel)⟩
theorem flX7_224 : lt_fl RX7 224 6 3 := ⟨(RX6, TX6, 8), rfl, coX6, by decide, lt_in 111 (by decide +kernel) (by decide +kernel)⟩
theorem flX7_26 : lt_fl RX7 26 7 2 := ⟨(RX7, TX7, 8), rfl, coX7, by decide, lt_in 445 (by decide +kernel) (by decide +kernel)⟩
theorem flX7_35 : lt_fl RX7 35 7 3 := ⟨(RX7, TX7, 8), rfl, coX7, by decide, lt_in 446 (by decide +kernel) (by decide +kernel)⟩
theorem flX7_39 : lt_fl RX7 39 7 4 := ⟨(RX7, TX7, 8), rfl, coX7, by decide, lt_in 447 (by decide +kernel) (by decide +kernel)⟩
theorem flX7_47 : lt_fl RX7 47 7 5 := ⟨(RX7, TX7, 8), rfl, coX7, by decide, lt_in 448 (by decide +kernel) (by decide +kernel)⟩
theorem flX7_56 : lt_fl RX7 56 7 6 := ⟨(RX7, TX7, 8), rfl, coX7, by decide, lt_in 449 (by decide +kernel) (by decide +kernel)⟩
theorem flX7_63 : lt_fl RX7 63 7 7 := ⟨(RX7, TX7, 8), rfl, coX7, by decide, lt_in 450 (by decide +kernel) (by decide +kernel)⟩
theorem flX7_93 : lt_fl RX7 93 5 1 := ⟨(RX5, TX5, 2), rfl, coX5, by decide, lt_in 82 (by decide +kernel) (by decide +kernel)⟩
theorem flX7_99 : lt_fl RX7 99 3 1 := ⟨(RX3, TX3, 5), rfl, coX3, by decide, lt_in 181 (by decide +kernel) (by decide +kernel)⟩
theorem flX8_13 : lt_fl RX8 13 8 1 := ⟨(RX8, TX8, 15), rfl, coX8, by decide, lt_in 680 (by decide +kernel) (by decide +kernel)⟩
theorem flX8_16 : lt_fl RX8 16 8 2 := ⟨(RX8, TX8, 15), rfl, coX8, by decide, lt_in 681 (by decide +kernel) (by decide +kernel)⟩
theorem flX8_164 : lt_fl RX8 164 8 13 := ⟨(RX8, TX8, 15), rfl, coX8, by decide, lt_in 692 (by decide +kernel) (by decide +kernel)⟩
theorem flX8_167 : lt_fl RX8 167 8 14 := ⟨(RX8, TX8, 15), rfl, coX8, by decide, lt_in 693 (by decide +kernel) (by decide +kernel)⟩
theorem flX8_19 : lt_fl RX8 19 8 4 := ⟨(RX8, TX8, 15), rfl, coX8, by decide, lt_in 683 (by decide +kernel) (by decide +kernel)⟩
theorem flX8_22 : lt_fl RX8 22 8 7 := ⟨(RX8, TX8, 15), rfl, coX8, by decide, lt_in 686 (by decide +kernel) (by decide +kernel)⟩
theorem flX8_25 : lt_fl RX8 25 8 9 := ⟨(RX8, TX8, 15), rfl, coX8, by decide, lt_in 688 (by decide +kernel) (by decide +kernel)⟩
theorem flX8_29 : lt_fl RX8 29 8 10 := ⟨(RX8, TX8, 15), rfl, coX8, by decide, lt_in 689 (by decide +kernel) (by decide +kernel)⟩
theorem flX8_32 : lt_fl RX8 32 8 11 := ⟨(RX8, TX8, 15), rfl, coX8, by decide, lt_in 690 (by decide +kernel) (by decide +kernel)⟩
theorem flX8_35 : lt_fl RX8 35 8 12 := ⟨(RX8, TX8, 15), rfl, coX8, by decide, lt_in 691 (by decide +kernel) (by decide +kernel)⟩
theorem flX8_48 : lt_fl RX8 48 8 3 := ⟨(RX8, TX8, 15), rfl, coX8, by decide, lt_in 682 (by decide +kernel) (by decide +kernel)⟩
theorem flX8_52 : lt_fl RX8 52 8 6 := ⟨(RX8, TX8, 15), rfl, coX8, by decide, lt_in 685 (by decide +kernel) (by decide +kernel)⟩
theorem flX8_55 : lt_fl RX8 55 8 5 := ⟨(RX8, TX8, 15), rfl, coX8, by decide, lt_in 684 (by decide +kernel) (by decide +kernel)⟩
theorem flX8_66 : lt_fl RX8 66 8 8 := ⟨(RX8, TX8, 15), rfl, coX8, by decide, lt_in 687 (by decide +kernel) (by decide +kernel)⟩
theorem flX8_7 : lt_fl RX8 7 8 0 := ⟨(RX8, TX8, 15), rfl, coX8, by decide, lt_in 679 (by decide +kernel) (by decide +kernel)⟩
theorem xlJ0_1053 : Cond.fieldLink RJ0 1053 RJ3 "SIOOBE_FORMATTER" "Ljava/util/function/BiFunction;" ∈ lt_tb := lt_in 290 (by decide +kernel) (by decide +kernel)
theorem xlJ0_15 : Cond.fieldLink RJ0 15 RJ0 "coder" "B" ∈ lt_tb := lt_in 968 (by decide +kernel) (by decide +kernel)
theorem xlJ0_38 : Cond.fieldLink RJ0 38 RJ0 "COMPACT_STRINGS" "Z" ∈ lt_tb := lt_in 274 (by decide +kernel) (by decide +kernel)
theorem xlJ0_9 : Cond.fieldLink RJ0 9 RJ0 "value" "[B" ∈ lt_tb := lt_in 967 (by decide +kernel) (by decide +kernel)
theorem xlJ2_44 : Cond.fieldLink RJ2 44 RJ2 "$assertionsDisabled" "Z" ∈ lt_tb := lt_in 308 (by decide +kernel) (by decide +kernel)
theorem xlJ2_59 : Cond.fieldLink RJ2 59 RJ2 "HI_BYTE_SHIFT" "I" ∈ lt_tb := lt_in 310 (by decide +kernel) (by decide +kernel)
theorem xlJ2_63 : Cond.fieldLink RJ2 63 RJ2 "LO_BYTE_SHIFT" "I" ∈ lt_tb := lt_in 312 (by decide +kernel) (by decide +kernel)
abbrev mX0_init : lt_M := (yX0_init, cX0_init, 3, none)
theorem meX0_init : lt_meI mX0_init 2 := ⟨⟨lt_in 200 (by decide +kernel) (by decide +kernel), lt_in 55 (by decide +kernel) (by decide +kernel), ⟨by decide +kernel, by decide +kernel⟩, by decide +kernel, by decide⟩, lt_in 199 (by decide +kernel) (by decide +kernel), rfl⟩
abbrev mX0_firstAgainst : lt_M := (yX0_firstAgainst, cX0_firstAgainst, 6, (some .int))
theorem meX0_firstAgainst : lt_meV mX0_firstAgainst 2 := ⟨⟨lt_in 507 (by decide +kernel) (by decide +kernel), lt_in 55 (by decide +kernel) (by decide +kernel), ⟨by decide +kernel, by decide +kernel⟩, by decide +kernel, by decide⟩, lt_in 505 (by decide +kernel) (by decide +kernel), lt_in 506 (by decide +kernel) (by decide +kernel)⟩
abbrev mX0_freeTracks : lt_M := (yX0_freeTracks, cX0_freeTracks, 4, (some .int))
theorem meX0_freeTracks : lt_meV mX0_freeTracks 1 := ⟨⟨lt_in 499 (by decide +kernel) (by decide +kernel), lt_in 55 (by decide +kernel) (by decide +kernel), ⟨by decide +kernel, by decide +kernel⟩, by decide +kernel, by decide⟩, lt_in 497 (by decide +kernel) (by decide +kernel), lt_in 498 (by decide +kernel) (by decide +kernel)⟩
abbrev mX0_isBehind : lt_M := (yX0_isBehind, cX0_isBehind, 3, (some .boolean))
theorem meX0_isBehind : lt_meV mX0_isBehind 2 := ⟨⟨lt_in 426 (by decide +kernel) (by decide +kernel), lt_in 55 (by decide +kernel) (by decide +kernel), ⟨by decide +kernel, by decide +kernel⟩, by decide +kernel, by decide⟩, lt_in 424 (by decide +kernel) (by decide +kernel), lt_in 425 (by decide +kernel) (by decide +kernel)⟩
abbrev mX0_isFree : lt_M := (yX0_isFree, cX0_isFree, 3, (some .boolean))
theorem meX0_isFree : lt_meV mX0_isFree 2 := ⟨⟨lt_in 503 (by decide +kernel) (by decide +kernel), lt_in 55 (by decide +kernel) (by decide +kernel), ⟨by decide +kernel, by decide +kernel⟩, by decide +kernel, by decide⟩, lt_in 501 (by decide +kernel) (by decide +kernel), lt_in 502 (by decide +kernel) (by decide +kernel)⟩
abbrev mX0_kind : lt_M := (yX0_kind, cX0_kind, 6, (some .int))
theorem meX0_kind : lt_meV mX0_kind 4 := ⟨⟨lt_in 406 (by decide +kernel) (by decide +kernel), lt_in 55 (by decide +kernel) (by decide +kernel), ⟨by decide +kernel, by decide +kernel⟩, by decide +kernel, by decide⟩, lt_in 404 (by decide +kernel) (by decide +kernel), lt_in 405 (by decide +kernel) (by decide +kernel)⟩
abbrev mX0_meet : lt_M := (yX0_meet, cX0_meet, 3, (some .boolean))
theorem meX0_meet : lt_meS mX0_meet 3 := ⟨⟨lt_in 438 (by decide +kernel) (by decide +kernel), lt_in 55 (by decide +kernel) (by decide +kernel), ⟨by decide +kernel, by decide +kernel⟩, by decide +kernel, by decide⟩, lt_in 437 (by decide +kernel) (by decide +kernel)⟩
abbrev mX0_seat : lt_M := (yX0_seat, cX0_seat, 2, (some .int))
theorem meX0_seat : lt_meS mX0_seat 2 := ⟨⟨lt_in 398 (by decide +kernel) (by decide +kernel), lt_in 55 (by decide +kernel) (by decide +kernel), ⟨by decide +kernel, by decide +kernel⟩, by decide +kernel, by decide⟩, lt_in 397 (by decide +kernel) (by decide +kernel)⟩
abbrev mX0_seatsAgainst : lt_M := (yX0_seatsAgainst, cX0_seatsAgainst, 6, (some .int))
theorem meX0_seatsAgainst : lt_meV mX0_seatsAgainst 2 := ⟨⟨lt_in 402 (by decide +kernel) (by decide +kernel), lt_in 55 (by decide +kernel) (by decide +kernel), ⟨by decide +kernel, by decide +kernel⟩, by decide +kernel, by decide⟩, lt_in 400 (by decide +kernel) (by decide +kernel), lt_in 401 (by decide +kernel) (by decide +kernel)⟩
abbrev mX0_shareSwitch : lt_M := (yX0_shareSwitch, cX0_shareSwitch, 11, (some .boolean))
theorem meX0_shareSwitch : lt_meV mX0_shareSwitch 4 := ⟨⟨lt_in 433 (by decide +kernel) (by decide +kernel), lt_in 55 (by decide +kernel) (by decide +kernel), ⟨by decide +kernel, by decide +kernel⟩, by decide +kernel, by decide⟩, lt_in 431 (by decide +kernel) (by decide +kernel), lt_in 432 (by decide +kernel) (by decide +kernel)⟩
abbrev mX0_workOut : lt_M := (yX0_workOut, cX0_workOut, 3, none)
theorem meX0_workOut : lt_meV mX0_workOut 0 := ⟨⟨lt_in 395 (by decide +kernel) (by decide +kernel), lt_in 55 (by decide +kernel) (by decide +kernel), ⟨by decide +kernel, by decide +kernel⟩, by decide +kernel, by decide⟩, lt_in 393 (by decide +kernel) (by decide +kernel), lt_in 394 (by decide +kernel) (by decide +kernel)⟩
abbrev mX1_init : lt_M := (yX1_init, cX1_init, 2, none)
theorem meX1_init : lt_meI mX1_init 0 := ⟨⟨lt_in 249 (by decide +kernel) (by decide +kernel), lt_in 57 (by decide +kernel) (by decide +kernel), ⟨by decide +kernel, by decide +kernel⟩, by decide +kernel, by decide⟩, lt_in 248 (by decide +kernel) (by decide +kernel), rfl⟩
abbrev mX1_bringBack : lt_M := (yX1_bringBack, cX1_bringBack, 2, none)
theorem meX1_bringBack : lt_meV mX1_bringBack 1 := ⟨⟨lt_in 620 (by decide +kernel) (by decide +kernel), lt_in 57 (by decide +kernel) (by decide +kernel), ⟨by decide +kernel, by decide +kernel⟩, by decide +kernel, by decide⟩, lt_in 618 (by decide +kernel) (by decide +kernel), lt_in 619 (by decide +kernel) (by decide +kernel)⟩
abbrev mX1_keep : lt_M := (yX1_keep, cX1_keep, 2, none)
theorem meX1_keep : lt_meV mX1_keep 1 := ⟨⟨lt_in 516 (by decide +kernel) (by decide +kernel), lt_in 57 (by decide +kernel) (by decide +kernel), ⟨by decide +kernel, by decide +kernel⟩, by decide +kernel, by decide⟩, lt_in 514 (by decide +kernel) (by decide +kernel), lt_in 515 (by decide +kernel) (by decide +kernel)⟩
abbrev mX2_init : lt_M := (yX2_init, cX2_init, 1, none)
theorem meX2_init : lt_meI mX2_init 0 := ⟨⟨lt_in 145 (by decide +kernel) (by decide +kernel), lt_in 53 (by decide +kernel) (by decide +kernel), ⟨by decide +kernel, by decide +kernel⟩, by decide +kernel, by decide⟩, lt_in 144 (by decide +kernel) (by decide +kernel), rfl⟩
abbrev mX2_comesIn : lt_M := (yX2_comesIn, cX2_comesIn, 3, (some .boolean))
theorem meX2_comesIn : lt_meV mX2_comesIn 2 := ⟨⟨lt_in 640 (by decide +kernel) (by decide +kernel), lt_in 53 (by decide +kernel) (by decide +kernel), ⟨by decide +kernel, by decide +kernel⟩, by decide +kernel, by decide⟩, lt_in 638 (by decide +kernel) (by decide +kernel), lt_in 639 (by decide +kernel) (by decide +kernel)⟩
abbrev mX2_copy : lt_M := (yX2_copy, cX2_copy, 2, none)
theorem meX2_copy : lt_meV mX2_copy 1 := ⟨⟨lt_in 520 (by decide +kernel) (by decide +kernel), lt_in 53 (by decide +kernel) (by decide +kernel), ⟨by decide +kernel, by decide +kernel⟩, by decide +kernel, by decide⟩, lt_in 518 (by decide +kernel) (by decide +kernel), lt_in 519 (by decide +kernel) (by decide +kernel)⟩
abbrev mX2_goesOut : lt_M := (yX2_goesOut, cX2_goesOut, 3, (some .boolean))
theorem meX2_goesOut : lt_meV mX2_goesOut 2 := ⟨⟨lt_in 644 (by decide +kernel) (by decide +kernel), lt_in 53 (by decide +kernel) (by decide +kernel), ⟨by decide +kernel, by decide +kernel⟩, by decide +kernel, by decide⟩, lt_in 642 (by decide +kernel) (by decide +kernel), lt_in 643 (by decide +kernel) (by decide +kernel)⟩
abbrev mX3_init : lt_M := (yX3_init, cX3_init, 4, none)
theorem meX3_init : lt_meI mX3_init 3 := ⟨⟨lt_in 177 (by decide +kernel) (by decide +kernel), lt_in 54 (by decide +kernel) (by decide +kernel), ⟨by decide +kernel, by decide +kernel⟩, by decide +kernel, by decide⟩, lt_in 176 (by decide +kernel) (by decide +kernel), rfl⟩
abbrev mX3_firstFault : lt_M := (yX3_firstFault, cX3_firstFault, 5, (some .int))
theorem meX3_firstFault : lt_meV mX3_firstFault 0 := ⟨⟨lt_in 329 (by decide +kernel) (by decide +kernel), lt_in 54 (by decide +kernel) (by decide +kernel), ⟨by decide +kernel, by decide +kernel⟩, by decide +kernel, by decide⟩, lt_in 327 (by decide +kernel) (by decide +kernel), lt_in 328 (by decide +kernel) (by decide +kernel)⟩
abbrev mX3_isFigure : lt_M := (yX3_isFigure, cX3_isFigure, 3, (some .boolean))
theorem meX3_isFigure : lt_meV mX3_isFigure 1 := ⟨⟨lt_in 351 (by decide +kernel) (by decide +kernel), lt_in 54 (by decide +kernel) (by decide +kernel), ⟨by decide +kernel, by decide +kernel⟩, by decide +kernel, by decide⟩, lt_in 349 (by decide +kernel) (by decide +kernel), lt_in 350 (by decide +kernel) (by decide +kernel)⟩
abbrev mX3_isTold : lt_M := (yX3_isTold, cX3_isTold, 2, (some .boolean))
theorem meX3_isTold : lt_meV mX3_isTold 1 := ⟨⟨lt_in 355 (by decide +kernel) (by decide +kernel), lt_in 54 (by decide +kernel) (by decide +kernel), ⟨by decide +kernel, by decide +kernel⟩, by decide +kernel, by decide⟩, lt_in 353 (by decide +kernel) (by decide +kernel), lt_in 354 (by decide +kernel) (by decide +kernel)⟩
abbrev mX3_isTrain : lt_M := (yX3_isTrain, cX3_isTrain, 4, (some .boolean))
theorem meX3_isTrain : lt_meV mX3_isTrain 0 := ⟨⟨lt_in 379 (by decide +kernel) (by decide +kernel), lt_in 54 (by decide +kernel) (by decide +kernel), ⟨by decide +kernel, by decide +kernel⟩, by decide +kernel, by decide⟩, lt_in 377 (by decide +kernel) (by decide +kernel), lt_in 378 (by decide +kernel) (by decide +kernel)⟩
abbrev mX3_readNumbers : lt_M := (yX3_readNumbers, cX3_readNumbers, 6, (some .int))
theorem meX3_readNumbers : lt_meV mX3_readNumbers 1 := ⟨⟨lt_in 347 (by decide +kernel) (by decide +kernel), lt_in 54 (by decide +kernel) (by decide +kernel), ⟨by decide +kernel, by decide +kernel⟩, by decide +kernel, by decide⟩, lt_in 345 (by decide +kernel) (by decide +kernel), lt_in 346 (by decide +kernel) (by decide +kernel)⟩
abbrev mX3_tellGap : lt_M := (yX3_tellGap, cX3_tellGap, 1, (some .boolean))
theorem meX3_tellGap : lt_meV mX3_tellGap 0 := ⟨⟨lt_in 391 (by decide +kernel) (by decide +kernel), lt_in 54 (by decide +kernel) (by decide +kernel), ⟨by decide +kernel, by decide +kernel⟩, by decide +kernel, by decide⟩, lt_in 389 (by decide +kernel) (by decide +kernel), lt_in 390 (by decide +kernel) (by decide +kernel)⟩
abbrev mX3_tellPair : lt_M := (yX3_tellPair, cX3_tellPair, 3, (some .boolean))
theorem meX3_tellPair : lt_meV mX3_tellPair 0 := ⟨⟨lt_in 383 (by decide +kernel) (by decide +kernel), lt_in 54 (by decide +kernel) (by decide +kernel), ⟨by decide +kernel, by decide +kernel⟩, by decide +kernel, by decide⟩, lt_in 381 (by decide +kernel) (by decide +kernel), lt_in 382 (by decide +kernel) (by decide +kernel)⟩
abbrev mX3_tellPath : lt_M := (yX3_tellPath, cX3_tellPath, 3, (some .boolean))
theorem meX3_tellPath : lt_meV mX3_tellPath 0 := ⟨⟨lt_in 363 (by decide +kernel) (by decide +kernel), lt_in 54 (by decide +kernel) (by decide +kernel), ⟨by decide +kernel, by decide +kernel⟩, by decide +kernel, by decide⟩, lt_in 361 (by decide +kernel) (by decide +kernel), lt_in 362 (by decide +kernel) (by decide +kernel)⟩
abbrev mX3_tellTrain : lt_M := (yX3_tellTrain, cX3_tellTrain, 2, (some .boolean))
theorem meX3_tellTrain : lt_meV mX3_tellTrain 0 := ⟨⟨lt_in 375 (by decide +kernel) (by decide +kernel), lt_in 54 (by decide +kernel) (by decide +kernel), ⟨by decide +kernel, by decide +kernel⟩, by decide +kernel, by decide⟩, lt_in 373 (by decide +kernel) (by decide +kernel), lt_in 374 (by decide +kernel) (by decide +kernel)⟩
abbrev mX3_tellYard : lt_M := (yX3_tellYard, cX3_tellYard, 3, (some .boolean))
theorem meX3_tellYard : lt_meV mX3_tellYard 0 := ⟨⟨lt_in 359 (by decide +kernel) (by decide +kernel), lt_in 54 (by decide +kernel) (by decide +kernel), ⟨by decide +kernel, by decide +kernel⟩, by decide +kernel, by decide⟩, lt_in 357 (by decide +kernel) (by decide +kernel), lt_in 358 (by decide +kernel) (by decide +kernel)⟩
abbrev mX3_wordAt : lt_M := (yX3_wordAt, cX3_wordAt, 5, (some .int))
theorem meX3_wordAt : lt_meV mX3_wordAt 1 := ⟨⟨lt_in 337 (by decide +kernel) (by decide +kernel), lt_in 54 (by decide +kernel) (by decide +kernel), ⟨by decide +kernel, by decide +kernel⟩, by decide +kernel, by decide⟩, lt_in 335 (by decide +kernel) (by decide +kernel), lt_in 336 (by decide +kernel) (by decide +kernel)⟩
abbrev mX4_init : lt_M := (yX4_init, cX4_init, 4, none)
theorem meX4_init : lt_meI mX4_init 3 := ⟨⟨lt_in 217 (by decide +kernel) (by decide +kernel), lt_in 56 (by decide +kernel) (by decide +kernel), ⟨by decide +kernel, by decide +kernel⟩, by decide +kernel, by decide⟩, lt_in 216 (by decide +kernel) (by decide +kernel), rfl⟩
abbrev mX4_costOf : lt_M := (yX4_costOf, cX4_costOf, 2, (some .int))
theorem meX4_costOf : lt_meS mX4_costOf 2 := ⟨⟨lt_in 572 (by decide +kernel) (by decide +kernel), lt_in 56 (by decide +kernel) (by decide +kernel), ⟨by decide +kernel, by decide +kernel⟩, by decide +kernel, by decide⟩, lt_in 571 (by decide +kernel) (by decide +kernel)⟩
abbrev mX4_find : lt_M := (yX4_find, cX4_find, 2, none)
theorem meX4_find : lt_meV mX4_find 1 := ⟨⟨lt_in 562 (by decide +kernel) (by decide +kernel), lt_in 56 (by decide +kernel) (by decide +kernel), ⟨by decide +kernel, by decide +kernel⟩, by decide +kernel, by decide⟩, lt_in 560 (by decide +kernel) (by decide +kernel), lt_in 561 (by decide +kernel) (by decide +kernel)⟩
abbrev mX4_findAvoiding : lt_M := (yX4_findAvoiding, cX4_findAvoiding, 2, none)
theorem meX4_findAvoiding : lt_meV mX4_findAvoiding 1 := ⟨⟨lt_in 612 (by decide +kernel) (by decide +kernel), lt_in 56 (by decide +kernel) (by decide +kernel), ⟨by decide +kernel, by decide +kernel⟩, by decide +kernel, by decide⟩, lt_in 610 (by decide +kernel) (by decide +kernel), lt_in 611 (by decide +kernel) (by decide +kernel)⟩
abbrev mX4_keepIfLess : lt_M := (yX4_keepIfLess, cX4_keepIfLess, 2, none)
theorem meX4_keepIfLess : lt_meV mX4_keepIfLess 1 := ⟨⟨lt_in 585 (by decide +kernel) (by decide +kernel), lt_in 56 (by decide +kernel) (by decide +kernel), ⟨by decide +kernel, by decide +kernel⟩, by decide +kernel, by decide⟩, lt_in 583 (by decide +kernel) (by decide +kernel), lt_in 584 (by decide +kernel) (by decide +kernel)⟩
abbrev mX4_seek : lt_M := (yX4_seek, cX4_seek, 7, none)
theorem meX4_seek : lt_meV mX4_seek 3 := ⟨⟨lt_in 581 (by decide +kernel) (by decide +kernel), lt_in 56 (by decide +kernel) (by decide +kernel), ⟨by decide +kernel, by decide +kernel⟩, by decide +kernel, by decide⟩, lt_in 579 (by decide +kernel) (by decide +kernel), lt_in 580 (by decide +kernel) (by decide +kernel)⟩
abbrev mX4_start : lt_M := (yX4_start, cX4_start, 4, none)
theorem meX4_start : lt_meV mX4_start 0 := ⟨⟨lt_in 576 (by decide +kernel) (by decide +kernel), lt_in 56 (by decide +kernel) (by decide +kernel), ⟨by decide +kernel, by decide +kernel⟩, by decide +kernel, by decide⟩, lt_in 574 (by decide +kernel) (by decide +kernel), lt_in 575 (by decide +kernel) (by decide +kernel)⟩
abbrev mX4_trackless : lt_M := (yX4_trackless, cX4_trackless, 3, (some .int))
theorem meX4_trackless : lt_meV mX4_trackless 0 := ⟨⟨lt_in 591 (by decide +kernel) (by decide +kernel), lt_in 56 (by decide +kernel) (by decide +kernel), ⟨by decide +kernel, by decide +kernel⟩, by decide +kernel, by decide⟩, lt_in 589 (by decide +kernel) (by decide +kernel), lt_in 590 (by decide +kernel) (by decide +kernel)⟩
abbrev mX4_weigh : lt_M := (yX4_weigh, cX4_weigh, 7, none)
theorem meX4_weigh : lt_meV mX4_weigh 2 := ⟨⟨lt_in 566 (by decide +kernel) (by decide +kernel), lt_in 56 (by decide +kernel) (by decide +kernel), ⟨by decide +kernel, by decide +kernel⟩, by decide +kernel, by decide⟩, lt_in 564 (by decide +kernel) (by decide +kernel), lt_in 565 (by decide +kernel) (by decide +kernel)⟩
abbrev mX5_init : lt_M := (yX5_init, cX5_init, 1, none)
theorem meX5_init : lt_meI mX5_init 0 := ⟨⟨lt_in 77 (by decide +kernel) (by decide +kernel), lt_in 51 (by decide +kernel) (by decide +kernel), ⟨by decide +kernel, by decide +kernel⟩, by decide +kernel, by decide⟩, lt_in 76 (by decide +kernel) (by decide +kernel), rfl⟩
abbrev mX5_append : lt_M := (yX5_append, cX5_append, 2, (some .boolean))
theorem meX5_append : lt_meV mX5_append 1 := ⟨⟨lt_in 321 (by decide +kernel) (by decide +kernel), lt_in 51 (by decide +kernel) (by decide +kernel), ⟨by decide +kernel, by decide +kernel⟩, by decide +kernel, by decide⟩, lt_in 319 (by decide +kernel) (by decide +kernel), lt_in 320 (by decide +kernel) (by decide +kernel)⟩
abbrev mX5_letterAt : lt_M := (yX5_letterAt, cX5_letterAt, 2, (some .int))
theorem meX5_letterAt : lt_meV mX5_letterAt 1 := ⟨⟨lt_in 341 (by decide +kernel) (by decide +kernel), lt_in 51 (by decide +kernel) (by decide +kernel), ⟨by decide +kernel, by decide +kernel⟩, by decide +kernel, by decide⟩, lt_in 339 (by decide +kernel) (by decide +kernel), lt_in 340 (by decide +kernel) (by decide +kernel)⟩
abbrev mX6_init : lt_M := (yX6_init, cX6_init, 1, none)
theorem meX6_init : lt_meI mX6_init 0 := ⟨⟨lt_in 93 (by decide +kernel) (by decide +kernel), lt_in 52 (by decide +kernel) (by decide +kernel), ⟨by decide +kernel, by decide +kernel⟩, by decide +kernel, by decide⟩, lt_in 92 (by decide +kernel) (by decide +kernel), rfl⟩
abbrev mX6_areCoupled : lt_M := (yX6_areCoupled, cX6_areCoupled, 3, (some .boolean))
theorem meX6_areCoupled : lt_meV mX6_areCoupled 2 := ⟨⟨lt_in 422 (by decide +kernel) (by decide +kernel), lt_in 52 (by decide +kernel) (by decide +kernel), ⟨by decide +kernel, by decide +kernel⟩, by decide +kernel, by decide⟩, lt_in 420 (by decide +kernel) (by decide +kernel), lt_in 421 (by decide +kernel) (by decide +kernel)⟩
abbrev mX6_clear : lt_M := (yX6_clear, cX6_clear, 2, none)
theorem meX6_clear : lt_meV mX6_clear 0 := ⟨⟨lt_in 333 (by decide +kernel) (by decide +kernel), lt_in 52 (by decide +kernel) (by decide +kernel), ⟨by decide +kernel, by decide +kernel⟩, by decide +kernel, by decide⟩, lt_in 331 (by decide +kernel) (by decide +kernel), lt_in 332 (by decide +kernel) (by decide +kernel)⟩
abbrev mX6_fits : lt_M := (yX6_fits, cX6_fits, 3, (some .boolean))
theorem meX6_fits : lt_meV mX6_fits 2 := ⟨⟨lt_in 410 (by decide +kernel) (by decide +kernel), lt_in 52 (by decide +kernel) (by decide +kernel), ⟨by decide +kernel, by decide +kernel⟩, by decide +kernel, by decide⟩, lt_in 408 (by decide +kernel) (by decide +kernel), lt_in 409 (by decide +kernel) (by decide +kernel)⟩
abbrev mX6_hasLine : lt_M := (yX6_hasLine, cX6_hasLine, 2, (some .boolean))
theorem meX6_hasLine : lt_meV mX6_hasLine 1 := ⟨⟨lt_in 367 (by decide +kernel) (by decide +kernel), lt_in 52 (by decide +kernel) (by decide +kernel), ⟨by decide +kernel, by decide +kernel⟩, by decide +kernel, by decide⟩, lt_in 365 (by decide +kernel) (by decide +kernel), lt_in 366 (by decide +kernel) (by decide +kernel)⟩
abbrev mX6_hasTrack : lt_M := (yX6_hasTrack, cX6_hasTrack, 2, (some .boolean))
theorem meX6_hasTrack : lt_meV mX6_hasTrack 1 := ⟨⟨lt_in 371 (by decide +kernel) (by decide +kernel), lt_in 52 (by decide +kernel) (by decide +kernel), ⟨by decide +kernel, by decide +kernel⟩, by decide +kernel, by decide⟩, lt_in 369 (by decide +kernel) (by decide +kernel), lt_in 370 (by decide +kernel) (by decide +kernel)⟩
abbrev mX6_hasTrain : lt_M := (yX6_hasTrain, cX6_hasTrain, 2, (some .boolean))
theorem meX6_hasTrain : lt_meV mX6_hasTrain 1 := ⟨⟨lt_in 387 (by decide +kernel) (by decide +kernel), lt_in 52 (by decide +kernel) (by decide +kernel), ⟨by decide +kernel, by decide +kernel⟩, by decide +kernel, by decide⟩, lt_in 385 (by decide +kernel) (by decide +kernel), lt_in 386 (by decide +kernel) (by decide +kernel)⟩
abbrev mX6_routeIn : lt_M := (yX6_routeIn, cX6_routeIn, 3, (some .int))
theorem meX6_routeIn : lt_meV mX6_routeIn 2 := ⟨⟨lt_in 414 (by decide +kernel) (by decide +kernel), lt_in 52 (by decide +kernel) (by decide +kernel), ⟨by decide +kernel, by decide +kernel⟩, by decide +kernel, by decide⟩, lt_in 412 (by decide +kernel) (by decide +kernel), lt_in 413 (by decide +kernel) (by decide +kernel)⟩
abbrev mX6_routeOut : lt_M := (yX6_routeOut, cX6_routeOut, 3, (some .int))
theorem meX6_routeOut : lt_meV mX6_routeOut 2 := ⟨⟨lt_in 418 (by decide +kernel) (by decide +kernel), lt_in 52 (by decide +kernel) (by decide +kernel), ⟨by decide +kernel, by decide +kernel⟩, by decide +kernel, by decide⟩, lt_in 416 (by decide +kernel) (by decide +kernel), lt_in 417 (by decide +kernel) (by decide +kernel)⟩
abbrev mX6_switchesOf : lt_M := (yX6_switchesOf, cX6_switchesOf, 3, (some .int))
theorem meX6_switchesOf : lt_meV mX6_switchesOf 2 := ⟨⟨lt_in 485 (by decide +kernel) (by decide +kernel), lt_in 52 (by decide +kernel) (by decide +kernel), ⟨by decide +kernel, by decide +kernel⟩, by decide +kernel, by decide⟩, lt_in 483 (by decide +kernel) (by decide +kernel), lt_in 484 (by decide +kernel) (by decide +kernel)⟩
abbrev mX7_init : lt_M := (yX7_init, cX7_init, 2, none)
theorem meX7_init : lt_meI mX7_init 0 := ⟨⟨lt_in 69 (by decide +kernel) (by decide +kernel), lt_in 50 (by decide +kernel) (by decide +kernel), ⟨by decide +kernel, by decide +kernel⟩, by decide +kernel, by decide⟩, lt_in 68 (by decide +kernel) (by decide +kernel), rfl⟩
abbrev mX7_adopt : lt_M := (yX7_adopt, cX7_adopt, 3, (some .int))
theorem meX7_adopt : lt_meV mX7_adopt 1 := ⟨⟨lt_in 603 (by decide +kernel) (by decide +kernel), lt_in 50 (by decide +kernel) (by decide +kernel), ⟨by decide +kernel, by decide +kernel⟩, by decide +kernel, by decide⟩, lt_in 601 (by decide +kernel) (by decide +kernel), lt_in 602 (by decide +kernel) (by decide +kernel)⟩
abbrev mX7_clash : lt_M := (yX7_clash, cX7_clash, 5, (some .int))
theorem meX7_clash : lt_meV mX7_clash 4 := ⟨⟨lt_in 545 (by decide +kernel) (by decide +kernel), lt_in 50 (by decide +kernel) (by decide +kernel), ⟨by decide +kernel, by decide +kernel⟩, by decide +kernel, by decide⟩, lt_in 543 (by decide +kernel) (by decide +kernel), lt_in 544 (by decide +kernel) (by decide +kernel)⟩
abbrev mX7_count : lt_M := (yX7_count, cX7_count, 2, (some .int))
theorem meX7_count : lt_meV mX7_count 1 := ⟨⟨lt_in 660 (by decide +kernel) (by decide +kernel), lt_in 50 (by decide +kernel) (by decide +kernel), ⟨by decide +kernel, by decide +kernel⟩, by decide +kernel, by decide⟩, lt_in 658 (by decide +kernel) (by decide +kernel), lt_in 659 (by decide +kernel) (by decide +kernel)⟩
abbrev mX7_fault : lt_M := (yX7_fault, cX7_fault, 1, (some .int))
theorem meX7_fault : lt_meV mX7_fault 0 := ⟨⟨lt_in 474 (by decide +kernel) (by decide +kernel), lt_in 50 (by decide +kernel) (by decide +kernel), ⟨by decide +kernel, by decide +kernel⟩, by decide +kernel, by decide⟩, lt_in 472 (by decide +kernel) (by decide +kernel), lt_in 473 (by decide +kernel) (by decide +kernel)⟩
abbrev mX7_fittingTracks : lt_M := (yX7_fittingTracks, cX7_fittingTracks, 4, (some .int))
theorem meX7_fittingTracks : lt_meV mX7_fittingTracks 1 := ⟨⟨lt_in 494 (by decide +kernel) (by decide +kernel), lt_in 50 (by decide +kernel) (by decide +kernel), ⟨by decide +kernel, by decide +kernel⟩, by decide +kernel, by decide⟩, lt_in 493 (by decide +kernel) (by decide +kernel), lt_in 0 (by decide +kernel) (by decide +kernel)⟩
abbrev mX7_give : lt_M := (yX7_give, cX7_give, 3, (some .int))
theorem meX7_give : lt_meV mX7_give 2 := ⟨⟨lt_in 511 (by decide +kernel) (by decide +kernel), lt_in 50 (by decide +kernel) (by decide +kernel), ⟨by decide +kernel, by decide +kernel⟩, by decide +kernel, by decide⟩, lt_in 509 (by decide +kernel) (by decide +kernel), lt_in 510 (by decide +kernel) (by decide +kernel)⟩
abbrev mX7_late : lt_M := (yX7_late, cX7_late, 4, (some .int))
theorem meX7_late : lt_meV mX7_late 2 := ⟨⟨lt_in 550 (by decide +kernel) (by decide +kernel), lt_in 50 (by decide +kernel) (by decide +kernel), ⟨by decide +kernel, by decide +kernel⟩, by decide +kernel, by decide⟩, lt_in 548 (by decide +kernel) (by decide +kernel), lt_in 549 (by decide +kernel) (by decide +kernel)⟩
abbrev mX7_lay : lt_M := (yX7_lay, cX7_lay, 1, (some .int))
theorem meX7_lay : lt_meV mX7_lay 0 := ⟨⟨lt_in 325 (by decide +kernel) (by decide +kernel), lt_in 50 (by decide +kernel) (by decide +kernel), ⟨by decide +kernel, by decide +kernel⟩, by decide +kernel, by decide⟩, lt_in 323 (by decide +kernel) (by decide +kernel), lt_in 324 (by decide +kernel) (by decide +kernel)⟩
abbrev mX7_minutesOfSwitch : lt_M := (yX7_minutesOfSwitch, cX7_minutesOfSwitch, 4, (some .int))
theorem meX7_minutesOfSwitch : lt_meV mX7_minutesOfSwitch 1 := ⟨⟨lt_in 656 (by decide +kernel) (by decide +kernel), lt_in 50 (by decide +kernel) (by decide +kernel), ⟨by decide +kernel, by decide +kernel⟩, by decide +kernel, by decide⟩, lt_in 655 (by decide +kernel) (by decide +kernel), lt_in 7 (by decide +kernel) (by decide +kernel)⟩
abbrev mX7_minutesOfTrack : lt_M := (yX7_minutesOfTrack, cX7_minutesOfTrack, 4, (some .int))
theorem meX7_minutesOfTrack : lt_meV mX7_minutesOfTrack 1 := ⟨⟨lt_in 652 (by decide +kernel) (by decide +kernel), lt_in 50 (by decide +kernel) (by decide +kernel), ⟨by decide +kernel, by decide +kernel⟩, by decide +kernel, by decide⟩, lt_in 651 (by decide +kernel) (by decide +kernel), lt_in 6 (by decide +kernel) (by decide +kernel)⟩
abbrev mX7_movedBy : lt_M := (yX7_movedBy, cX7_movedBy, 4, (some .int))
theorem meX7_movedBy : lt_meV mX7_movedBy 1 := ⟨⟨lt_in 599 (by decide +kernel) (by decide +kernel), lt_in 50 (by decide +kernel) (by decide +kernel), ⟨by decide +kernel, by decide +kernel⟩, by decide +kernel, by decide⟩, lt_in 598 (by decide +kernel) (by decide +kernel), lt_in 3 (by decide +kernel) (by decide +kernel)⟩
abbrev mX7_on : lt_M := (yX7_on, cX7_on, 3, (some .int))
theorem meX7_on : lt_meV mX7_on 2 := ⟨⟨lt_in 624 (by decide +kernel) (by decide +kernel), lt_in 50 (by decide +kernel) (by decide +kernel), ⟨by decide +kernel, by decide +kernel⟩, by decide +kernel, by decide⟩, lt_in 622 (by decide +kernel) (by decide +kernel), lt_in 623 (by decide +kernel) (by decide +kernel)⟩
abbrev mX7_placedTrains : lt_M := (yX7_placedTrains, cX7_placedTrains, 3, (some .int))
theorem meX7_placedTrains : lt_meV mX7_placedTrains 0 := ⟨⟨lt_in 530 (by decide +kernel) (by decide +kernel), lt_in 50 (by decide +kernel) (by decide +kernel), ⟨by decide +kernel, by decide +kernel⟩, by decide +kernel, by decide⟩, lt_in 529 (by decide +kernel) (by decide +kernel), lt_in 1 (by decide +kernel) (by decide +kernel)⟩
abbrev mX7_route : lt_M := (yX7_route, cX7_route, 3, (some .int))
theorem meX7_route : lt_meV mX7_route 2 := ⟨⟨lt_in 479 (by decide +kernel) (by decide +kernel), lt_in 50 (by decide +kernel) (by decide +kernel), ⟨by decide +kernel, by decide +kernel⟩, by decide +kernel, by decide⟩, lt_in 477 (by decide +kernel) (by decide +kernel), lt_in 478 (by decide +kernel) (by decide +kernel)⟩
abbrev mX7_switchesIn : lt_M := (yX7_switchesIn, cX7_switchesIn, 5, (some .int))
theorem meX7_switchesIn : lt_meV mX7_switchesIn 1 := ⟨⟨lt_in 636 (by decide +kernel) (by decide +kernel), lt_in 50 (by decide +kernel) (by decide +kernel), ⟨by decide +kernel, by decide +kernel⟩, by decide +kernel, by decide⟩, lt_in 635 (by decide +kernel) (by decide +kernel), lt_in 5 (by decide +kernel) (by decide +kernel)⟩
abbrev mX7_take : lt_M := (yX7_take, cX7_take, 3, (some .int))
theorem meX7_take : lt_meV mX7_take 1 := ⟨⟨lt_in 534 (by decide +kernel) (by decide +kernel), lt_in 50 (by decide +kernel) (by decide +kernel), ⟨by decide +kernel, by decide +kernel⟩, by decide +kernel, by decide⟩, lt_in 532 (by decide +kernel) (by decide +kernel), lt_in 533 (by decide +kernel) (by decide +kernel)⟩
abbrev mX7_taken : lt_M := (yX7_taken, cX7_taken, 2, (some .int))
theorem meX7_taken : lt_meV mX7_taken 1 := ⟨⟨lt_in 632 (by decide +kernel) (by decide +kernel), lt_in 50 (by decide +kernel) (by decide +kernel), ⟨by decide +kernel, by decide +kernel⟩, by decide +kernel, by decide⟩, lt_in 630 (by decide +kernel) (by decide +kernel), lt_in 631 (by decide +kernel) (by decide +kernel)⟩
abbrev mX7_train : lt_M := (yX7_train, cX7_train, 3, (some .int))
theorem meX7_train : lt_meV mX7_train 2 := ⟨⟨lt_in 489 (by decide +kernel) (by decide +kernel), lt_in 50 (by decide +kernel) (by decide +kernel), ⟨by decide +kernel, by decide +kernel⟩, by decide +kernel, by decide⟩, lt_in 487 (by decide +kernel) (by decide +kernel), lt_in 488 (by decide +kernel) (by decide +kernel)⟩
abbrev mX7_trainsOn : lt_M := (yX7_trainsOn, cX7_trainsOn, 5, (some .int))
theorem meX7_trainsOn : lt_meV mX7_trainsOn 2 := ⟨⟨lt_in 628 (by decide +kernel) (by decide +kernel), lt_in 50 (by decide +kernel) (by decide +kernel), ⟨by decide +kernel, by decide +kernel⟩, by decide +kernel, by decide⟩, lt_in 627 (by decide +kernel) (by decide +kernel), lt_in 4 (by decide +kernel) (by decide +kernel)⟩
abbrev mX7_undo : lt_M := (yX7_undo, cX7_undo, 1, (some .int))
theorem meX7_undo : lt_meV mX7_undo 0 := ⟨⟨lt_in 616 (by decide +kernel) (by decide +kernel), lt_in 50 (by decide +kernel) (by decide +kernel), ⟨by decide +kernel, by decide +kernel⟩, by decide +kernel, by decide⟩, lt_in 614 (by decide +kernel) (by decide +kernel), lt_in 615 (by decide +kernel) (by decide +kernel)⟩
abbrev mX7_use : lt_M := (yX7_use, cX7_use, 3, (some .int))
theorem meX7_use : lt_meV mX7_use 2 := ⟨⟨lt_in 648 (by decide +kernel) (by decide +kernel), lt_in 50 (by decide +kernel) (by decide +kernel), ⟨by decide +kernel, by decide +kernel⟩, by decide +kernel, by decide⟩, lt_in 646 (by decide +kernel) (by decide +kernel), lt_in 647 (by decide +kernel) (by decide +kernel)⟩
abbrev mX7_way : lt_M := (yX7_way, cX7_way, 3, (some .int))
theorem meX7_way : lt_meV mX7_way 2 := ⟨⟨lt_in 558 (by decide +kernel) (by decide +kernel), lt_in 50 (by decide +kernel) (by decide +kernel), ⟨by decide +kernel, by decide +kernel⟩, by decide +kernel, by decide⟩, lt_in 556 (by decide +kernel) (by decide +kernel), lt_in 557 (by decide +kernel) (by decide +kernel)⟩
abbrev mX7_why : lt_M := (yX7_why, cX7_why, 4, (some .int))
theorem meX7_why : lt_meV mX7_why 2 := ⟨⟨lt_in 538 (by decide +kernel) (by decide +kernel), lt_in 50 (by decide +kernel) (by decide +kernel), ⟨by decide +kernel, by decide +kernel⟩, by decide +kernel, by decide⟩, lt_in 536 (by decide +kernel) (by decide +kernel), lt_in 537 (by decide +kernel) (by decide +kernel)⟩
abbrev mX7_wipe : lt_M := (yX7_wipe, cX7_wipe, 2, (some .int))
theorem meX7_wipe : lt_meV mX7_wipe 0 := ⟨⟨lt_in 442 (by decide +kernel) (by decide +kernel), lt_in 50 (by decide +kernel) (by decide +kernel), ⟨by decide +kernel, by decide +kernel⟩, by decide +kernel, by decide⟩, lt_in 440 (by decide +kernel) (by decide +kernel), lt_in 441 (by decide +kernel) (by decide +kernel)⟩
abbrev mX7_wish : lt_M := (yX7_wish, cX7_wish, 4, (some .int))
theorem meX7_wish : lt_meV mX7_wish 2 := ⟨⟨lt_in 554 (by decide +kernel) (by decide +kernel), lt_in 50 (by decide +kernel) (by decide +kernel), ⟨by decide +kernel, by decide +kernel⟩, by decide +kernel, by decide⟩, lt_in 552 (by decide +kernel) (by decide +kernel), lt_in 553 (by decide +kernel) (by decide +kernel)⟩
abbrev mX7_wishesMet : lt_M := (yX7_wishesMet, cX7_wishesMet, 4, (some .int))
theorem meX7_wishesMet : lt_meV mX7_wishesMet 1 := ⟨⟨lt_in 595 (by decide +kernel) (by decide +kernel), lt_in 50 (by decide +kernel) (by decide +kernel), ⟨by decide +kernel, by decide +kernel⟩, by decide +kernel, by decide⟩, lt_in 594 (by decide +kernel) (by decide +kernel), lt_in 2 (by decide +kernel) (by decide +kernel)⟩
abbrev mX7_without : lt_M := (yX7_without, cX7_without, 2, (some .int))
theorem meX7_without : lt_meV mX7_without 1 := ⟨⟨lt_in 608 (by decide +kernel) (by decide +kernel), lt_in 50 (by decide +kernel) (by decide +kernel), ⟨by decide +kernel, by decide +kernel⟩, by decide +kernel, by decide⟩, lt_in 606 (by decide +kernel) (by decide +kernel), lt_in 607 (by decide +kernel) (by decide +kernel)⟩
abbrev mX7_write : lt_M := (yX7_write, cX7_write, 2, (some .int))
theorem meX7_write : lt_meV mX7_write 1 := ⟨⟨lt_in 317 (by decide +kernel) (by decide +kernel), lt_in 50 (by decide +kernel) (by decide +kernel), ⟨by decide +kernel, by decide +kernel⟩, by decide +kernel, by decide⟩, lt_in 315 (by decide +kernel) (by decide +kernel), lt_in 316 (by decide +kernel) (by decide +kernel)⟩
abbrev mX8_init : lt_M := (yX8_init, cX8_init, 1, none)
theorem meX8_init : lt_meI mX8_init 0 := ⟨⟨lt_in 665 (by decide +kernel) (by decide +kernel), lt_in 63 (by decide +kernel) (by decide +kernel), ⟨by decide +kernel, by decide +kernel⟩, by decide +kernel, by decide⟩, lt_in 664 (by decide +kernel) (by decide +kernel), rfl⟩
abbrev mX8_adopt : lt_M := (yX8_adopt, cX8_adopt, 4, (some .int))
theorem meX8_adopt : lt_meV mX8_adopt 1 := ⟨⟨lt_in 934 (by decide +kernel) (by decide +kernel), lt_in 63 (by decide +kernel) (by decide +kernel), ⟨by decide +kernel, by decide +kernel⟩, by decide +kernel, by decide⟩, lt_in 932 (by decide +kernel) (by decide +kernel), lt_in 933 (by decide +kernel) (by decide +kernel)⟩
abbrev mX8_asTrack : lt_M := (yX8_asTrack, cX8_asTrack, 1, (some .int))
theorem meX8_asTrack : lt_meS mX8_asTrack 1 := ⟨⟨lt_in 914 (by decide +kernel) (by decide +kernel), lt_in 63 (by decide +kernel) (by decide +kernel), ⟨by decide +kernel, by decide +kernel⟩, by decide +kernel, by decide⟩, lt_in 913 (by decide +kernel) (by decide +kernel)⟩
abbrev mX8_asWished : lt_M := (yX8_asWished, cX8_asWished, 3, (some .int))
theorem meX8_asWished : lt_meV mX8_asWished 0 := ⟨⟨lt_in 966 (by decide +kernel) (by decide +kernel), lt_in 63 (by decide +kernel) (by decide +kernel), ⟨by decide +kernel, by decide +kernel⟩, by decide +kernel, by decide⟩, lt_in 965 (by decide +kernel) (by decide +kernel), lt_in 48 (by decide +kernel) (by decide +kernel)⟩
abbrev mX8_becomes : lt_M := (yX8_becomes, cX8_becomes, 4, none)
theorem meX8_becomes : lt_meV mX8_becomes 3 := ⟨⟨lt_in 863 (by decide +kernel) (by decide +kernel), lt_in 63 (by decide +kernel) (by decide +kernel), ⟨by decide +kernel, by decide +kernel⟩, by decide +kernel, by decide⟩, lt_in 862 (by decide +kernel) (by decide +kernel), lt_in 35 (by decide +kernel) (by decide +kernel)⟩
abbrev mX8_begins : lt_M := (yX8_begins, cX8_begins, 2, none)
theorem meX8_begins : lt_meV mX8_begins 0 := ⟨⟨lt_in 670 (by decide +kernel) (by decide +kernel), lt_in 63 (by decide +kernel) (by decide +kernel), ⟨by decide +kernel, by decide +kernel⟩, by decide +kernel, by decide⟩, lt_in 669 (by decide +kernel) (by decide +kernel), lt_in 8 (by decide +kernel) (by decide +kernel)⟩
abbrev mX8_clash : lt_M := (yX8_clash, cX8_clash, 5, (some .int))
theorem meX8_clash : lt_meV mX8_clash 4 := ⟨⟨lt_in 879 (by decide +kernel) (by decide +kernel), lt_in 63 (by decide +kernel) (by decide +kernel), ⟨by decide +kernel, by decide +kernel⟩, by decide +kernel, by decide⟩, lt_in 877 (by decide +kernel) (by decide +kernel), lt_in 878 (by decide +kernel) (by decide +kernel)⟩
abbrev mX8_clashOf : lt_M := (yX8_clashOf, cX8_clashOf, 12, (some .int))
theorem meX8_clashOf : lt_meV mX8_clashOf 4 := ⟨⟨lt_in 848 (by decide +kernel) (by decide +kernel), lt_in 63 (by decide +kernel) (by decide +kernel), ⟨by decide +kernel, by decide +kernel⟩, by decide +kernel, by decide⟩, lt_in 847 (by decide +kernel) (by decide +kernel), lt_in 33 (by decide +kernel) (by decide +kernel)⟩
abbrev mX8_clashing : lt_M := (yX8_clashing, cX8_clashing, 4, (some .int))
theorem meX8_clashing : lt_meV mX8_clashing 2 := ⟨⟨lt_in 844 (by decide +kernel) (by decide +kernel), lt_in 63 (by decide +kernel) (by decide +kernel), ⟨by decide +kernel, by decide +kernel⟩, by decide +kernel, by decide⟩, lt_in 843 (by decide +kernel) (by decide +kernel), lt_in 32 (by decide +kernel) (by decide +kernel)⟩
abbrev mX8_comes : lt_M := (yX8_comes, cX8_comes, 7, none)
theorem meX8_comes : lt_meV mX8_comes 5 := ⟨⟨lt_in 674 (by decide +kernel) (by decide +kernel), lt_in 63 (by decide +kernel) (by decide +kernel), ⟨by decide +kernel, by decide +kernel⟩, by decide +kernel, by decide⟩, lt_in 673 (by decide +kernel) (by decide +kernel), lt_in 9 (by decide +kernel) (by decide +kernel)⟩
abbrev mX8_count : lt_M := (yX8_count, cX8_count, 2, (some .int))
theorem meX8_count : lt_meV mX8_count 1 := ⟨⟨lt_in 962 (by decide +kernel) (by decide +kernel), lt_in 63 (by decide +kernel) (by decide +kernel), ⟨by decide +kernel, by decide +kernel⟩, by decide +kernel, by decide⟩, lt_in 960 (by decide +kernel) (by decide +kernel), lt_in 961 (by decide +kernel) (by decide +kernel)⟩
abbrev mX8_doesFit : lt_M := (yX8_doesFit, cX8_doesFit, 3, (some .boolean))
theorem meX8_doesFit : lt_meV mX8_doesFit 2 := ⟨⟨lt_in 824 (by decide +kernel) (by decide +kernel), lt_in 63 (by decide +kernel) (by decide +kernel), ⟨by decide +kernel, by decide +kernel⟩, by decide +kernel, by decide⟩, lt_in 823 (by decide +kernel) (by decide +kernel), lt_in 27 (by decide +kernel) (by decide +kernel)⟩
abbrev mX8_fault : lt_M := (yX8_fault, cX8_fault, 1, (some .int))
theorem meX8_fault : lt_meV mX8_fault 0 := ⟨⟨lt_in 740 (by decide +kernel) (by decide +kernel), lt_in 63 (by decide +kernel) (by decide +kernel), ⟨by decide +kernel, by decide +kernel⟩, by decide +kernel, by decide⟩, lt_in 738 (by decide +kernel) (by decide +kernel), lt_in 739 (by decide +kernel) (by decide +kernel)⟩
abbrev mX8_findsWay : lt_M := (yX8_findsWay, cX8_findsWay, 5, none)
theorem meX8_findsWay : lt_meV mX8_findsWay 2 := ⟨⟨lt_in 895 (by decide +kernel) (by decide +kernel), lt_in 63 (by decide +kernel) (by decide +kernel), ⟨by decide +kernel, by decide +kernel⟩, by decide +kernel, by decide⟩, lt_in 894 (by decide +kernel) (by decide +kernel), lt_in 37 (by decide +kernel) (by decide +kernel)⟩
abbrev mX8_fits : lt_M := (yX8_fits, cX8_fits, 4, (some .int))
theorem meX8_fits : lt_meV mX8_fits 1 := ⟨⟨lt_in 820 (by decide +kernel) (by decide +kernel), lt_in 63 (by decide +kernel) (by decide +kernel), ⟨by decide +kernel, by decide +kernel⟩, by decide +kernel, by decide⟩, lt_in 819 (by decide +kernel) (by decide +kernel), lt_in 26 (by decide +kernel) (by decide +kernel)⟩
abbrev mX8_give : lt_M := (yX8_give, cX8_give, 3, (some .int))
theorem meX8_give : lt_meV mX8_give 2 := ⟨⟨lt_in 855 (by decide +kernel) (by decide +kernel), lt_in 63 (by decide +kernel) (by decide +kernel), ⟨by decide +kernel, by decide +kernel⟩, by decide +kernel, by decide⟩, lt_in 853 (by decide +kernel) (by decide +kernel), lt_in 854 (by decide +kernel) (by decide +kernel)⟩
abbrev mX8_hardOf : lt_M := (yX8_hardOf, cX8_hardOf, 4, (some .int))
theorem meX8_hardOf : lt_meV mX8_hardOf 1 := ⟨⟨lt_in 836 (by decide +kernel) (by decide +kernel), lt_in 63 (by decide +kernel) (by decide +kernel), ⟨by decide +kernel, by decide +kernel⟩, by decide +kernel, by decide⟩, lt_in 835 (by decide +kernel) (by decide +kernel), lt_in 30 (by decide +kernel) (by decide +kernel)⟩
abbrev mX8_in : lt_M := (yX8_in, cX8_in, 3, (some .boolean))
theorem meX8_in : lt_meS mX8_in 3 := ⟨⟨lt_in 732 (by decide +kernel) (by decide +kernel), lt_in 63 (by decide +kernel) (by decide +kernel), ⟨by decide +kernel, by decide +kernel⟩, by decide +kernel, by decide⟩, lt_in 731 (by decide +kernel) (by decide +kernel)⟩
abbrev mX8_isAt : lt_M := (yX8_isAt, cX8_isAt, 3, (some .boolean))
theorem meX8_isAt : lt_meV mX8_isAt 2 := ⟨⟨lt_in 768 (by decide +kernel) (by decide +kernel), lt_in 63 (by decide +kernel) (by decide +kernel), ⟨by decide +kernel, by decide +kernel⟩, by decide +kernel, by decide⟩, lt_in 767 (by decide +kernel) (by decide +kernel), lt_in 17 (by decide +kernel) (by decide +kernel)⟩
abbrev mX8_isTrack : lt_M := (yX8_isTrack, cX8_isTrack, 2, (some .boolean))
theorem meX8_isTrack : lt_meV mX8_isTrack 1 := ⟨⟨lt_in 800 (by decide +kernel) (by decide +kernel), lt_in 63 (by decide +kernel) (by decide +kernel), ⟨by decide +kernel, by decide +kernel⟩, by decide +kernel, by decide⟩, lt_in 799 (by decide +kernel) (by decide +kernel), lt_in 22 (by decide +kernel) (by decide +kernel)⟩
abbrev mX8_isTrain : lt_M := (yX8_isTrain, cX8_isTrain, 2, (some .boolean))
theorem meX8_isTrain : lt_meV mX8_isTrain 1 := ⟨⟨lt_in 812 (by decide +kernel) (by decide +kernel), lt_in 63 (by decide +kernel) (by decide +kernel), ⟨by decide +kernel, by decide +kernel⟩, by decide +kernel, by decide⟩, lt_in 811 (by decide +kernel) (by decide +kernel), lt_in 24 (by decide +kernel) (by decide +kernel)⟩
abbrev mX8_isWord : lt_M := (yX8_isWord, cX8_isWord, 5, (some .boolean))
theorem meX8_isWord : lt_meV mX8_isWord 4 := ⟨⟨lt_in 752 (by decide +kernel) (by decide +kernel), lt_in 63 (by decide +kernel) (by decide +kernel), ⟨by decide +kernel, by decide +kernel⟩, by decide +kernel, by decide⟩, lt_in 751 (by decide +kernel) (by decide +kernel), lt_in 13 (by decide +kernel) (by decide +kernel)⟩
abbrev mX8_isWorth : lt_M := (yX8_isWorth, cX8_isWorth, 4, (some .boolean))
theorem meX8_isWorth : lt_meV mX8_isWorth 2 := ⟨⟨lt_in 922 (by decide +kernel) (by decide +kernel), lt_in 63 (by decide +kernel) (by decide +kernel), ⟨by decide +kernel, by decide +kernel⟩, by decide +kernel, by decide⟩, lt_in 921 (by decide +kernel) (by decide +kernel), lt_in 43 (by decide +kernel) (by decide +kernel)⟩
abbrev mX8_keeps : lt_M := (yX8_keeps, cX8_keeps, 2, none)
theorem meX8_keeps : lt_meV mX8_keeps 0 := ⟨⟨lt_in 859 (by decide +kernel) (by decide +kernel), lt_in 63 (by decide +kernel) (by decide +kernel), ⟨by decide +kernel, by decide +kernel⟩, by decide +kernel, by decide⟩, lt_in 858 (by decide +kernel) (by decide +kernel), lt_in 34 (by decide +kernel) (by decide +kernel)⟩
abbrev mX8_late : lt_M := (yX8_late, cX8_late, 3, (some .int))
theorem meX8_late : lt_meV mX8_late 2 := ⟨⟨lt_in 883 (by decide +kernel) (by decide +kernel), lt_in 63 (by decide +kernel) (by decide +kernel), ⟨by decide +kernel, by decide +kernel⟩, by decide +kernel, by decide⟩, lt_in 881 (by decide +kernel) (by decide +kernel), lt_in 882 (by decide +kernel) (by decide +kernel)⟩
abbrev mX8_lay : lt_M := (yX8_lay, cX8_lay, 1, (some .int))
theorem meX8_lay : lt_meV mX8_lay 0 := ⟨⟨lt_in 788 (by decide +kernel) (by decide +kernel), lt_in 63 (by decide +kernel) (by decide +kernel), ⟨by decide +kernel, by decide +kernel⟩, by decide +kernel, by decide⟩, lt_in 786 (by decide +kernel) (by decide +kernel), lt_in 787 (by decide +kernel) (by decide +kernel)⟩
abbrev mX8_laysClashes : lt_M := (yX8_laysClashes, cX8_laysClashes, 6, none)
theorem meX8_laysClashes : lt_meV mX8_laysClashes 1 := ⟨⟨lt_in 899 (by decide +kernel) (by decide +kernel), lt_in 63 (by decide +kernel) (by decide +kernel), ⟨by decide +kernel, by decide +kernel⟩, by decide +kernel, by decide⟩, lt_in 898 (by decide +kernel) (by decide +kernel), lt_in 38 (by decide +kernel) (by decide +kernel)⟩
abbrev mX8_like : lt_M := (yX8_like, cX8_like, 6, (some .int))
theorem meX8_like : lt_meV mX8_like 2 := ⟨⟨lt_in 911 (by decide +kernel) (by decide +kernel), lt_in 63 (by decide +kernel) (by decide +kernel), ⟨by decide +kernel, by decide +kernel⟩, by decide +kernel, by decide⟩, lt_in 910 (by decide +kernel) (by decide +kernel), lt_in 41 (by decide +kernel) (by decide +kernel)⟩
abbrev mX8_may : lt_M := (yX8_may, cX8_may, 5, (some .boolean))
theorem meX8_may : lt_meV mX8_may 2 := ⟨⟨lt_in 918 (by decide +kernel) (by decide +kernel), lt_in 63 (by decide +kernel) (by decide +kernel), ⟨by decide +kernel, by decide +kernel⟩, by decide +kernel, by decide⟩, lt_in 917 (by decide +kernel) (by decide +kernel), lt_in 42 (by decide +kernel) (by decide +kernel)⟩
abbrev mX8_meet : lt_M := (yX8_meet, cX8_meet, 2, (some .boolean))
theorem meX8_meet : lt_meS mX8_meet 2 := ⟨⟨lt_in 851 (by decide +kernel) (by decide +kernel), lt_in 63 (by decide +kernel) (by decide +kernel), ⟨by decide +kernel, by decide +kernel⟩, by decide +kernel, by decide⟩, lt_in 850 (by decide +kernel) (by decide +kernel)⟩
abbrev mX8_noneOf : lt_M := (yX8_noneOf, cX8_noneOf, 4, (some .int))
theorem meX8_noneOf : lt_meV mX8_noneOf 1 := ⟨⟨lt_in 907 (by decide +kernel) (by decide +kernel), lt_in 63 (by decide +kernel) (by decide +kernel), ⟨by decide +kernel, by decide +kernel⟩, by decide +kernel, by decide⟩, lt_in 906 (by decide +kernel) (by decide +kernel), lt_in 40 (by decide +kernel) (by decide +kernel)⟩
abbrev mX8_of : lt_M := (yX8_of, cX8_of, 3, (some .int))
theorem meX8_of : lt_meV mX8_of 2 := ⟨⟨lt_in 816 (by decide +kernel) (by decide +kernel), lt_in 63 (by decide +kernel) (by decide +kernel), ⟨by decide +kernel, by decide +kernel⟩, by decide +kernel, by decide⟩, lt_in 815 (by decide +kernel) (by decide +kernel), lt_in 25 (by decide +kernel) (by decide +kernel)⟩
abbrev mX8_on : lt_M := (yX8_on, cX8_on, 3, (some .int))
theorem meX8_on : lt_meV mX8_on 2 := ⟨⟨lt_in 942 (by decide +kernel) (by decide +kernel), lt_in 63 (by decide +kernel) (by decide +kernel), ⟨by decide +kernel, by decide +kernel⟩, by decide +kernel, by decide⟩, lt_in 940 (by decide +kernel) (by decide +kernel), lt_in 941 (by decide +kernel) (by decide +kernel)⟩
abbrev mX8_onTrack : lt_M := (yX8_onTrack, cX8_onTrack, 5, (some .int))
theorem meX8_onTrack : lt_meV mX8_onTrack 2 := ⟨⟨lt_in 946 (by decide +kernel) (by decide +kernel), lt_in 63 (by decide +kernel) (by decide +kernel), ⟨by decide +kernel, by decide +kernel⟩, by decide +kernel, by decide⟩, lt_in 945 (by decide +kernel) (by decide +kernel), lt_in 46 (by decide +kernel) (by decide +kernel)⟩
abbrev mX8_otherwise : lt_M := (yX8_otherwise, cX8_otherwise, 3, (some .int))
theorem meX8_otherwise : lt_meV mX8_otherwise 0 := ⟨⟨lt_in 930 (by decide +kernel) (by decide +kernel), lt_in 63 (by decide +kernel) (by decide +kernel), ⟨by decide +kernel, by decide +kernel⟩, by decide +kernel, by decide⟩, lt_in 929 (by decide +kernel) (by decide +kernel), lt_in 45 (by decide +kernel) (by decide +kernel)⟩
abbrev mX8_placed : lt_M := (yX8_placed, cX8_placed, 3, (some .int))
theorem meX8_placed : lt_meV mX8_placed 0 := ⟨⟨lt_in 867 (by decide +kernel) (by decide +kernel), lt_in 63 (by decide +kernel) (by decide +kernel), ⟨by decide +kernel, by decide +kernel⟩, by decide +kernel, by decide⟩, lt_in 866 (by decide +kernel) (by decide +kernel), lt_in 36 (by decide +kernel) (by decide +kernel)⟩
abbrev mX8_reads : lt_M := (yX8_reads, cX8_reads, 2, (some .int))
theorem meX8_reads : lt_meV mX8_reads 0 := ⟨⟨lt_in 744 (by decide +kernel) (by decide +kernel), lt_in 63 (by decide +kernel) (by decide +kernel), ⟨by decide +kernel, by decide +kernel⟩, by decide +kernel, by decide⟩, lt_in 743 (by decide +kernel) (by decide +kernel), lt_in 11 (by decide +kernel) (by decide +kernel)⟩
abbrev mX8_route : lt_M := (yX8_route, cX8_route, 3, (some .int))
theorem meX8_route : lt_meV mX8_route 2 := ⟨⟨lt_in 796 (by decide +kernel) (by decide +kernel), lt_in 63 (by decide +kernel) (by decide +kernel), ⟨by decide +kernel, by decide +kernel⟩, by decide +kernel, by decide⟩, lt_in 794 (by decide +kernel) (by decide +kernel), lt_in 795 (by decide +kernel) (by decide +kernel)⟩
abbrev mX8_routeOf : lt_M := (yX8_routeOf, cX8_routeOf, 3, (some .int))
theorem meX8_routeOf : lt_meV mX8_routeOf 2 := ⟨⟨lt_in 804 (by decide +kernel) (by decide +kernel), lt_in 63 (by decide +kernel) (by decide +kernel), ⟨by decide +kernel, by decide +kernel⟩, by decide +kernel, by decide⟩, lt_in 803 (by decide +kernel) (by decide +kernel), lt_in 23 (by decide +kernel) (by decide +kernel)⟩
abbrev mX8_take : lt_M := (yX8_take, cX8_take, 3, (some .int))
theorem meX8_take : lt_meV mX8_take 1 := ⟨⟨lt_in 871 (by decide +kernel) (by decide +kernel), lt_in 63 (by decide +kernel) (by decide +kernel), ⟨by decide +kernel, by decide +kernel⟩, by decide +kernel, by decide⟩, lt_in 869 (by decide +kernel) (by decide +kernel), lt_in 870 (by decide +kernel) (by decide +kernel)⟩
abbrev mX8_taken : lt_M := (yX8_taken, cX8_taken, 2, (some .int))
theorem meX8_taken : lt_meV mX8_taken 1 := ⟨⟨lt_in 950 (by decide +kernel) (by decide +kernel), lt_in 63 (by decide +kernel) (by decide +kernel), ⟨by decide +kernel, by decide +kernel⟩, by decide +kernel, by decide⟩, lt_in 948 (by decide +kernel) (by decide +kernel), lt_in 949 (by decide +kernel) (by decide +kernel)⟩
abbrev mX8_takenIn : lt_M := (yX8_takenIn, cX8_takenIn, 5, (some .int))
theorem meX8_takenIn : lt_meV mX8_takenIn 1 := ⟨⟨lt_in 954 (by decide +kernel) (by decide +kernel), lt_in 63 (by decide +kernel) (by decide +kernel), ⟨by decide +kernel, by decide +kernel⟩, by decide +kernel, by decide⟩, lt_in 953 (by decide +kernel) (by decide +kernel), lt_in 47 (by decide +kernel) (by decide +kernel)⟩
abbrev mX8_takesAll : lt_M := (yX8_takesAll, cX8_takesAll, 2, none)
theorem meX8_takesAll : lt_meV mX8_takesAll 0 := ⟨⟨lt_in 678 (by decide +kernel) (by decide +kernel), lt_in 63 (by decide +kernel) (by decide +kernel), ⟨by decide +kernel, by decide +kernel⟩, by decide +kernel, by decide⟩, lt_in 677 (by decide +kernel) (by decide +kernel), lt_in 10 (by decide +kernel) (by decide +kernel)⟩
abbrev mX8_takesGap : lt_M := (yX8_takesGap, cX8_takesGap, 2, (some .boolean))
theorem meX8_takesGap : lt_meV mX8_takesGap 0 := ⟨⟨lt_in 784 (by decide +kernel) (by decide +kernel), lt_in 63 (by decide +kernel) (by decide +kernel), ⟨by decide +kernel, by decide +kernel⟩, by decide +kernel, by decide⟩, lt_in 783 (by decide +kernel) (by decide +kernel), lt_in 21 (by decide +kernel) (by decide +kernel)⟩
abbrev mX8_takesIfBetter : lt_M := (yX8_takesIfBetter, cX8_takesIfBetter, 6, none)
theorem meX8_takesIfBetter : lt_meV mX8_takesIfBetter 1 := ⟨⟨lt_in 903 (by decide +kernel) (by decide +kernel), lt_in 63 (by decide +kernel) (by decide +kernel), ⟨by decide +kernel, by decide +kernel⟩, by decide +kernel, by decide⟩, lt_in 902 (by decide +kernel) (by decide +kernel), lt_in 39 (by decide +kernel) (by decide +kernel)⟩
abbrev mX8_takesItem : lt_M := (yX8_takesItem, cX8_takesItem, 1, (some .boolean))
theorem meX8_takesItem : lt_meV mX8_takesItem 0 := ⟨⟨lt_in 748 (by decide +kernel) (by decide +kernel), lt_in 63 (by decide +kernel) (by decide +kernel), ⟨by decide +kernel, by decide +kernel⟩, by decide +kernel, by decide⟩, lt_in 747 (by decide +kernel) (by decide +kernel), lt_in 12 (by decide +kernel) (by decide +kernel)⟩
abbrev mX8_takesNumber : lt_M := (yX8_takesNumber, cX8_takesNumber, 3, (some .boolean))
theorem meX8_takesNumber : lt_meV mX8_takesNumber 0 := ⟨⟨lt_in 764 (by decide +kernel) (by decide +kernel), lt_in 63 (by decide +kernel) (by decide +kernel), ⟨by decide +kernel, by decide +kernel⟩, by decide +kernel, by decide⟩, lt_in 763 (by decide +kernel) (by decide +kernel), lt_in 16 (by decide +kernel) (by decide +kernel)⟩
abbrev mX8_takesNumbers : lt_M := (yX8_takesNumbers, cX8_takesNumbers, 5, (some .boolean))
theorem meX8_takesNumbers : lt_meV mX8_takesNumbers 2 := ⟨⟨lt_in 760 (by decide +kernel) (by decide +kernel), lt_in 63 (by decide +kernel) (by decide +kernel), ⟨by decide +kernel, by decide +kernel⟩, by decide +kernel, by decide⟩, lt_in 759 (by decide +kernel) (by decide +kernel), lt_in 15 (by decide +kernel) (by decide +kernel)⟩
abbrev mX8_takesPair : lt_M := (yX8_takesPair, cX8_takesPair, 4, (some .boolean))
theorem meX8_takesPair : lt_meV mX8_takesPair 0 := ⟨⟨lt_in 780 (by decide +kernel) (by decide +kernel), lt_in 63 (by decide +kernel) (by decide +kernel), ⟨by decide +kernel, by decide +kernel⟩, by decide +kernel, by decide⟩, lt_in 779 (by decide +kernel) (by decide +kernel), lt_in 20 (by decide +kernel) (by decide +kernel)⟩
abbrev mX8_takesPath : lt_M := (yX8_takesPath, cX8_takesPath, 5, (some .boolean))
theorem meX8_takesPath : lt_meV mX8_takesPath 0 := ⟨⟨lt_in 772 (by decide +kernel) (by decide +kernel), lt_in 63 (by decide +kernel) (by decide +kernel), ⟨by decide +kernel, by decide +kernel⟩, by decide +kernel, by decide⟩, lt_in 771 (by decide +kernel) (by decide +kernel), lt_in 18 (by decide +kernel) (by decide +kernel)⟩
abbrev mX8_takesTrain : lt_M := (yX8_takesTrain, cX8_takesTrain, 2, (some .boolean))
theorem meX8_takesTrain : lt_meV mX8_takesTrain 0 := ⟨⟨lt_in 776 (by decide +kernel) (by decide +kernel), lt_in 63 (by decide +kernel) (by decide +kernel), ⟨by decide +kernel, by decide +kernel⟩, by decide +kernel, by decide⟩, lt_in 775 (by decide +kernel) (by decide +kernel), lt_in 19 (by decide +kernel) (by decide +kernel)⟩
abbrev mX8_takesYard : lt_M := (yX8_takesYard, cX8_takesYard, 2, (some .boolean))
theorem meX8_takesYard : lt_meV mX8_takesYard 0 := ⟨⟨lt_in 756 (by decide +kernel) (by decide +kernel), lt_in 63 (by decide +kernel) (by decide +kernel), ⟨by decide +kernel, by decide +kernel⟩, by decide +kernel, by decide⟩, lt_in 755 (by decide +kernel) (by decide +kernel), lt_in 14 (by decide +kernel) (by decide +kernel)⟩
abbrev mX8_train : lt_M := (yX8_train, cX8_train, 3, (some .int))
theorem meX8_train : lt_meV mX8_train 2 := ⟨⟨lt_in 808 (by decide +kernel) (by decide +kernel), lt_in 63 (by decide +kernel) (by decide +kernel), ⟨by decide +kernel, by decide +kernel⟩, by decide +kernel, by decide⟩, lt_in 806 (by decide +kernel) (by decide +kernel), lt_in 807 (by decide +kernel) (by decide +kernel)⟩
abbrev mX8_undo : lt_M := (yX8_undo, cX8_undo, 2, (some .int))
theorem meX8_undo : lt_meV mX8_undo 0 := ⟨⟨lt_in 792 (by decide +kernel) (by decide +kernel), lt_in 63 (by decide +kernel) (by decide +kernel), ⟨by decide +kernel, by decide +kernel⟩, by decide +kernel, by decide⟩, lt_in 790 (by decide +kernel) (by decide +kernel), lt_in 791 (by decide +kernel) (by decide +kernel)⟩
abbrev mX8_use : lt_M := (yX8_use, cX8_use, 5, (some .int))
theorem meX8_use : lt_meV mX8_use 2 := ⟨⟨lt_in 958 (by decide +kernel) (by decide +kernel), lt_in 63 (by decide +kernel) (by decide +kernel), ⟨by decide +kernel, by decide +kernel⟩, by decide +kernel, by decide⟩, lt_in 956 (by decide +kernel) (by decide +kernel), lt_in 957 (by decide +kernel) (by decide +kernel)⟩
abbrev mX8_way : lt_M := (yX8_way, cX8_way, 3, (some .int))
theorem meX8_way : lt_meV mX8_way 2 := ⟨⟨lt_in 891 (by decide +kernel) (by decide +kernel), lt_in 63 (by decide +kernel) (by decide +kernel), ⟨by decide +kernel, by decide +kernel⟩, by decide +kernel, by decide⟩, lt_in 889 (by decide +kernel) (by decide +kernel), lt_in 890 (by decide +kernel) (by decide +kernel)⟩
abbrev mX8_wayIn : lt_M := (yX8_wayIn, cX8_wayIn, 3, (some .int))
theorem meX8_wayIn : lt_meV mX8_wayIn 2 := ⟨⟨lt_in 828 (by decide +kernel) (by decide +kernel), lt_in 63 (by decide +kernel) (by decide +kernel), ⟨by decide +kernel, by decide +kernel⟩, by decide +kernel, by decide⟩, lt_in 827 (by decide +kernel) (by decide +kernel), lt_in 28 (by decide +kernel) (by decide +kernel)⟩
abbrev mX8_wayOut : lt_M := (yX8_wayOut, cX8_wayOut, 3, (some .int))
theorem meX8_wayOut : lt_meV mX8_wayOut 2 := ⟨⟨lt_in 832 (by decide +kernel) (by decide +kernel), lt_in 63 (by decide +kernel) (by decide +kernel), ⟨by decide +kernel, by decide +kernel⟩, by decide +kernel, by decide⟩, lt_in 831 (by decide +kernel) (by decide +kernel), lt_in 29 (by decide +kernel) (by decide +kernel)⟩
abbrev mX8_why : lt_M := (yX8_why, cX8_why, 3, (some .int))
theorem meX8_why : lt_meV mX8_why 2 := ⟨⟨lt_in 875 (by decide +kernel) (by decide +kernel), lt_in 63 (by decide +kernel) (by decide +kernel), ⟨by decide +kernel, by decide +kernel⟩, by decide +kernel, by decide⟩, lt_in 873 (by decide +kernel) (by decide +kernel), lt_in 874 (by decide +kernel) (by decide +kernel)⟩
abbrev mX8_whyNot : lt_M := (yX8_whyNot, cX8_whyNot, 4, (some .int))
theorem meX8_whyNot : lt_meV mX8_whyNot 2 := ⟨⟨lt_in 840 (by decide +kernel) (by decide +kernel), lt_in 63 (by decide +kernel) (by decide +kernel), ⟨by decide +kernel, by decide +kernel⟩, by decide +kernel, by decide⟩, lt_in 839 (by decide +kernel) (by decide +kernel), lt_in 31 (by decide +kernel) (by decide +kernel)⟩
abbrev mX8_wipe : lt_M := (yX8_wipe, cX8_wipe, 2, (some .int))
theorem meX8_wipe : lt_meV mX8_wipe 0 := ⟨⟨lt_in 736 (by decide +kernel) (by decide +kernel), lt_in 63 (by decide +kernel) (by decide +kernel), ⟨by decide +kernel, by decide +kernel⟩, by decide +kernel, by decide⟩, lt_in 734 (by decide +kernel) (by decide +kernel), lt_in 735 (by decide +kernel) (by decide +kernel)⟩
abbrev mX8_wish : lt_M := (yX8_wish, cX8_wish, 5, (some .int))
theorem meX8_wish : lt_meV mX8_wish 2 := ⟨⟨lt_in 887 (by decide +kernel) (by decide +kernel), lt_in 63 (by decide +kernel) (by decide +kernel), ⟨by decide +kernel, by decide +kernel⟩, by decide +kernel, by decide⟩, lt_in 885 (by decide +kernel) (by decide +kernel), lt_in 886 (by decide +kernel) (by decide +kernel)⟩
abbrev mX8_wished : lt_M := (yX8_wished, cX8_wished, 4, (some .int))
theorem meX8_wished : lt_meV mX8_wished 0 := ⟨⟨lt_in 926 (by decide +kernel) (by decide +kernel), lt_in 63 (by decide +kernel) (by decide +kernel), ⟨by decide +kernel, by decide +kernel⟩, by decide +kernel, by decide⟩, lt_in 925 (by decide +kernel) (by decide +kernel), lt_in 44 (by decide +kernel) (by decide +kernel)⟩
abbrev mX8_without : lt_M := (yX8_without, cX8_without, 2, (some .int))
theorem meX8_without : lt_meV mX8_without 1 := ⟨⟨lt_in 938 (by decide +kernel) (by decide +kernel), lt_in 63 (by decide +kernel) (by decide +kernel), ⟨by decide +kernel, by decide +kernel⟩, by decide +kernel, by decide⟩, lt_in 936 (by decide +kernel) (by decide +kernel), lt_in 937 (by decide +kernel) (by decide +kernel)⟩
abbrev mX8_write : lt_M := (yX8_write, cX8_write, 2, (some .int))
theorem meX8_write : lt_meV mX8_write 1 := ⟨⟨lt_in 729 (by decide +kernel) (by decide +kernel), lt_in 63 (by decide +kernel) (by decide +kernel), ⟨by decide +kernel, by decide +kernel⟩, by decide +kernel, by decide⟩, lt_in 727 (by decide +kernel) (by decide +kernel), lt_in 728 (by decide +kernel) (by decide +kernel)⟩
abbrev mJ9_max_7cf53 : lt_M := (yJ9_max_7cf53, cJ9_max_7cf53, 2, (some .int))
theorem meJ9_max_7cf53 : lt_meS mJ9_max_7cf53 2 := ⟨⟨lt_in 429 (by decide +kernel) (by decide +kernel), lt_in 62 (by decide +kernel) (by decide +kernel), ⟨by decide +kernel, by decide +kernel⟩, by decide +kernel, by decide⟩, lt_in 428 (by decide +kernel) (by decide +kernel)⟩
abbrev mJ9_min_7cf53 : lt_M := (yJ9_min_7cf53, cJ9_min_7cf53, 2, (some .int))
theorem meJ9_min_7cf53 : lt_meS mJ9_min_7cf53 2 := ⟨⟨lt_in 526 (by decide +kernel) (by decide +kernel), lt_in 62 (by decide +kernel) (by decide +kernel), ⟨by decide +kernel, by decide +kernel⟩, by decide +kernel, by decide⟩, lt_in 525 (by decide +kernel) (by decide +kernel)⟩
abbrev mJ0_charAt_5068e : lt_M := (yJ0_charAt_5068e, cJ0_charAt_5068e, 2, (some .char))
theorem meJ0_charAt_5068e : lt_meV mJ0_charAt_5068e 1 := ⟨⟨lt_in 279 (by decide +kernel) (by decide +kernel), lt_in 58 (by decide +kernel) (by decide +kernel), ⟨by decide +kernel, by decide +kernel⟩, by decide +kernel, by decide⟩, lt_in 277 (by decide +kernel) (by decide +kernel), lt_in 278 (by decide +kernel) (by decide +kernel)⟩
abbrev mJ0_checkIndex_df160 : lt_M := (yJ0_checkIndex_df160, cJ0_checkIndex_df160, 2, none)
theorem meJ0_checkIndex_df160 : lt_meS mJ0_checkIndex_df160 2 := ⟨⟨lt_in 289 (by decide +kernel) (by decide +kernel), lt_in 58 (by decide +kernel) (by decide +kernel), ⟨by decide +kernel, by decide +kernel⟩, by decide +kernel, by decide⟩, lt_in 288 (by decide +kernel) (by decide +kernel)⟩
abbrev mJ0_coder_7d493 : lt_M := (yJ0_coder_7d493, cJ0_coder_7d493, 1, (some .byte))
theorem meJ0_coder_7d493 : lt_meV mJ0_coder_7d493 0 := ⟨⟨lt_in 273 (by decide +kernel) (by decide +kernel), lt_in 58 (by decide +kernel) (by decide +kernel), ⟨by decide +kernel, by decide +kernel⟩, by decide +kernel, by decide⟩, lt_in 271 (by decide +kernel) (by decide +kernel), lt_in 272 (by decide +kernel) (by decide +kernel)⟩
abbrev mJ0_isLatin1_aae02 : lt_M := (yJ0_isLatin1_aae02, cJ0_isLatin1_aae02, 1, (some .boolean))
theorem meJ0_isLatin1_aae02 : lt_meV mJ0_isLatin1_aae02 0 := ⟨⟨lt_in 283 (by decide +kernel) (by decide +kernel), lt_in 58 (by decide +kernel) (by decide +kernel), ⟨by decide +kernel, by decide +kernel⟩, by decide +kernel, by decide⟩, lt_in 281 (by decide +kernel) (by decide +kernel), lt_in 282 (by decide +kernel) (by decide +kernel)⟩
abbrev mJ0_length_8abf5 : lt_M := (yJ0_length_8abf5, cJ0_length_8abf5, 1, (some .int))
theorem meJ0_length_8abf5 : lt_meV mJ0_length_8abf5 0 := ⟨⟨lt_in 269 (by decide +kernel) (by decide +kernel), lt_in 58 (by decide +kernel) (by decide +kernel), ⟨by decide +kernel, by decide +kernel⟩, by decide +kernel, by decide⟩, lt_in 267 (by decide +kernel) (by decide +kernel), lt_in 268 (by decide +kernel) (by decide +kernel)⟩
abbrev mJ1_charAt_3b067 : lt_M := (yJ1_charAt_3b067, cJ1_charAt_3b067, 2, (some .char))
theorem meJ1_charAt_3b067 : lt_meS mJ1_charAt_3b067 2 := ⟨⟨lt_in 286 (by decide +kernel) (by decide +kernel), lt_in 59 (by decide +kernel) (by decide +kernel), ⟨by decide +kernel, by decide +kernel⟩, by decide +kernel, by decide⟩, lt_in 285 (by decide +kernel) (by decide +kernel)⟩
abbrev mJ2_charAt_3b067 : lt_M := (yJ2_charAt_3b067, cJ2_charAt_3b067, 2, (some .char))
theorem meJ2_charAt_3b067 : lt_meS mJ2_charAt_3b067 2 := ⟨⟨lt_in 297 (by decide +kernel) (by decide +kernel), lt_in 61 (by decide +kernel) (by decide +kernel), ⟨by decide +kernel, by decide +kernel⟩, by decide +kernel, by decide⟩, lt_in 296 (by decide +kernel) (by decide +kernel)⟩
abbrev mJ2_checkIndex_2214a : lt_M := (yJ2_checkIndex_2214a, cJ2_checkIndex_2214a, 2, none)
theorem meJ2_checkIndex_2214a : lt_meS mJ2_checkIndex_2214a 2 := ⟨⟨lt_in 300 (by decide +kernel) (by decide +kernel), lt_in 61 (by decide +kernel) (by decide +kernel), ⟨by decide +kernel, by decide +kernel⟩, by decide +kernel, by decide⟩, lt_in 299 (by decide +kernel) (by decide +kernel)⟩
abbrev mJ2_getChar_3b067 : lt_M := (yJ2_getChar_3b067, cJ2_getChar_3b067, 2, (some .char))
theorem meJ2_getChar_3b067 : lt_meS mJ2_getChar_3b067 2 := ⟨⟨lt_in 307 (by decide +kernel) (by decide +kernel), lt_in 61 (by decide +kernel) (by decide +kernel), ⟨by decide +kernel, by decide +kernel⟩, by decide +kernel, by decide⟩, lt_in 306 (by decide +kernel) (by decide +kernel)⟩
abbrev mJ2_length_9d52b : lt_M := (yJ2_length_9d52b, cJ2_length_9d52b, 1, (some .int))
theorem meJ2_length_9d52b : lt_meS mJ2_length_9d52b 1 := ⟨⟨lt_in 303 (by decide +kernel) (by decide +kernel), lt_in 61 (by decide +kernel) (by decide +kernel), ⟨by decide +kernel, by decide +kernel⟩, by decide +kernel, by decide⟩, lt_in 302 (by decide +kernel) (by decide +kernel)⟩
abbrev mJ3_checkIndex_8e157 : lt_M := (yJ3_checkIndex_8e157, cJ3_checkIndex_8e157, 3, (some .int))
theorem meJ3_checkIndex_8e157 : lt_meS mJ3_checkIndex_8e157 3 := ⟨⟨lt_in 294 (by decide +kernel) (by decide +kernel), lt_in 60 (by decide +kernel) (by decide +kernel), ⟨by decide +kernel, by decide +kernel⟩, by decide +kernel, by decide⟩, lt_in 293 (by decide +kernel) (by decide +kernel)⟩
theorem clX1_9 : Cond.classLink RX1 9 RX2 ∈ lt_tb := lt_in 251 (by decide +kernel) (by decide +kernel)
theorem clX7_16 : Cond.classLink RX7 16 RX6 ∈ lt_tb := lt_in 89 (by decide +kernel) (by decide +kernel)
theorem clX7_23 : Cond.classLink RX7 23 RX2 ∈ lt_tb := lt_in 141 (by decide +kernel) (by decide +kernel)
theorem clX7_30 : Cond.classLink RX7 30 RX3 ∈ lt_tb := lt_in 173 (by decide +kernel) (by decide +kernel)
theorem clX7_42 : Cond.classLink RX7 42 RX0 ∈ lt_tb := lt_in 196 (by decide +kernel) (by decide +kernel)
theorem clX7_51 : Cond.classLink RX7 51 RX4 ∈ lt_tb := lt_in 213 (by decide +kernel) (by decide +kernel)
theorem clX7_60 : Cond.classLink RX7 60 RX1 ∈ lt_tb := lt_in 245 (by decide +kernel) (by decide +kernel)
theorem clX7_7 : Cond.classLink RX7 7 RX5 ∈ lt_tb := lt_in 73 (by decide +kernel) (by decide +kernel)
theorem clL_10 : Cond.classLink RL 10 RX8 ∈ lt_tb := lt_in 661 (by decide +kernel) (by decide +kernel)
theorem clL_7 : Cond.classLink RL 7 RX7 ∈ lt_tb := lt_in 65 (by decide +kernel) (by decide +kernel)
theorem mlX0_3 : Cond.methodLink RX0 3 objectInit ∈ lt_tb := lt_in 201 (by decide +kernel) (by decide +kernel)
theorem mlX0_32 : Cond.methodLink RX0 32 yX0_seat ∈ lt_tb := lt_in 396 (by decide +kernel) (by decide +kernel)
theorem mlX0_36 : Cond.methodLink RX0 36 yX0_seatsAgainst ∈ lt_tb := lt_in 399 (by decide +kernel) (by decide +kernel)
theorem mlX0_39 : Cond.methodLink RX0 39 yX0_kind ∈ lt_tb := lt_in 403 (by decide +kernel) (by decide +kernel)
theorem mlX0_43 : Cond.methodLink RX0 43 yX6_fits ∈ lt_tb := lt_in 407 (by decide +kernel) (by decide +kernel)
theorem mlX0_47 : Cond.methodLink RX0 47 yX6_areCoupled ∈ lt_tb := lt_in 419 (by decide +kernel) (by decide +kernel)
theorem mlX0_50 : Cond.methodLink RX0 50 yX0_isBehind ∈ lt_tb := lt_in 423 (by decide +kernel) (by decide +kernel)
theorem mlX0_53 : Cond.methodLink RX0 53 yX0_shareSwitch ∈ lt_tb := lt_in 430 (by decide +kernel) (by decide +kernel)
theorem mlX0_68 : Cond.methodLink RX0 68 Lib.Math.max.name ∈ lt_tb := lt_in 427 (by decide +kernel) (by decide +kernel)
theorem mlX0_73 : Cond.methodLink RX0 73 yX6_routeIn ∈ lt_tb := lt_in 434 (by decide +kernel) (by decide +kernel)
theorem mlX0_76 : Cond.methodLink RX0 76 yX6_routeOut ∈ lt_tb := lt_in 435 (by decide +kernel) (by decide +kernel)
theorem mlX0_79 : Cond.methodLink RX0 79 yX0_meet ∈ lt_tb := lt_in 436 (by decide +kernel) (by decide +kernel)
theorem mlX0_86 : Cond.methodLink RX0 86 yX0_firstAgainst ∈ lt_tb := lt_in 504 (by decide +kernel) (by decide +kernel)
theorem mlX0_89 : Cond.methodLink RX0 89 yX0_isFree ∈ lt_tb := lt_in 500 (by decide +kernel) (by decide +kernel)
theorem mlX1_25 : Cond.methodLink RX1 25 yX2_copy ∈ lt_tb := lt_in 517 (by decide +kernel) (by decide +kernel)
theorem mlX1_29 : Cond.methodLink RX1 29 Lib.Math.min.name ∈ lt_tb := lt_in 524 (by decide +kernel) (by decide +kernel)
theorem mlX1_3 : Cond.methodLink RX1 3 objectInit ∈ lt_tb := lt_in 250 (by decide +kernel) (by decide +kernel)
theorem mlX2_24 : Cond.methodLink RX2 24 arraycopyName ∈ lt_tb := lt_in 521 (by decide +kernel) (by decide +kernel)
theorem mlX2_3 : Cond.methodLink RX2 3 objectInit ∈ lt_tb := lt_in 146 (by decide +kernel) (by decide +kernel)
theorem mlX3_100 : Cond.methodLink RX3 100 yX3_isTrain ∈ lt_tb := lt_in 376 (by decide +kernel) (by decide +kernel)
theorem mlX3_126 : Cond.methodLink RX3 126 yX6_hasTrain ∈ lt_tb := lt_in 384 (by decide +kernel) (by decide +kernel)
theorem mlX3_3 : Cond.methodLink RX3 3 objectInit ∈ lt_tb := lt_in 178 (by decide +kernel) (by decide +kernel)
theorem mlX3_31 : Cond.methodLink RX3 31 yX6_clear ∈ lt_tb := lt_in 330 (by decide +kernel) (by decide +kernel)
theorem mlX3_41 : Cond.methodLink RX3 41 yX3_wordAt ∈ lt_tb := lt_in 334 (by decide +kernel) (by decide +kernel)
theorem mlX3_45 : Cond.methodLink RX3 45 yX3_readNumbers ∈ lt_tb := lt_in 344 (by decide +kernel) (by decide +kernel)
theorem mlX3_48 : Cond.methodLink RX3 48 yX3_isTold ∈ lt_tb := lt_in 352 (by decide +kernel) (by decide +kernel)
theorem mlX3_52 : Cond.methodLink RX3 52 yX5_letterAt ∈ lt_tb := lt_in 338 (by decide +kernel) (by decide +kernel)
theorem mlX3_57 : Cond.methodLink RX3 57 yJ0_charAt_5068e ∈ lt_tb := lt_in 343 (by decide +kernel) (by decide +kernel)
theorem mlX3_63 : Cond.methodLink RX3 63 yX3_isFigure ∈ lt_tb := lt_in 348 (by decide +kernel) (by decide +kernel)
theorem mlX3_66 : Cond.methodLink RX3 66 yX3_tellYard ∈ lt_tb := lt_in 356 (by decide +kernel) (by decide +kernel)
theorem mlX3_73 : Cond.methodLink RX3 73 yX3_tellPath ∈ lt_tb := lt_in 360 (by decide +kernel) (by decide +kernel)
theorem mlX3_76 : Cond.methodLink RX3 76 yX3_tellTrain ∈ lt_tb := lt_in 372 (by decide +kernel) (by decide +kernel)
theorem mlX3_79 : Cond.methodLink RX3 79 yX3_tellPair ∈ lt_tb := lt_in 380 (by decide +kernel) (by decide +kernel)
theorem mlX3_82 : Cond.methodLink RX3 82 yX3_tellGap ∈ lt_tb := lt_in 388 (by decide +kernel) (by decide +kernel)
theorem mlX3_88 : Cond.methodLink RX3 88 yX6_hasLine ∈ lt_tb := lt_in 364 (by decide +kernel) (by decide +kernel)
theorem mlX3_91 : Cond.methodLink RX3 91 yX6_hasTrack ∈ lt_tb := lt_in 368 (by decide +kernel) (by decide +kernel)
theorem mlX4_3 : Cond.methodLink RX4 3 objectInit ∈ lt_tb := lt_in 218 (by decide +kernel) (by decide +kernel)
theorem mlX4_40 : Cond.methodLink RX4 40 yX4_weigh ∈ lt_tb := lt_in 563 (by decide +kernel) (by decide +kernel)
theorem mlX4_44 : Cond.methodLink RX4 44 yX4_start ∈ lt_tb := lt_in 573 (by decide +kernel) (by decide +kernel)
theorem mlX4_63 : Cond.methodLink RX4 63 yX6_fits ∈ lt_tb := lt_in 567 (by decide +kernel) (by decide +kernel)
theorem mlX4_67 : Cond.methodLink RX4 67 yX6_routeIn ∈ lt_tb := lt_in 568 (by decide +kernel) (by decide +kernel)
theorem mlX4_71 : Cond.methodLink RX4 71 yX6_routeOut ∈ lt_tb := lt_in 569 (by decide +kernel) (by decide +kernel)
theorem mlX4_74 : Cond.methodLink RX4 74 yX4_costOf ∈ lt_tb := lt_in 570 (by decide +kernel) (by decide +kernel)
theorem mlX4_77 : Cond.methodLink RX4 77 Lib.Math.min.name ∈ lt_tb := lt_in 577 (by decide +kernel) (by decide +kernel)
theorem mlX4_82 : Cond.methodLink RX4 82 yX4_seek ∈ lt_tb := lt_in 578 (by decide +kernel) (by decide +kernel)
theorem mlX4_86 : Cond.methodLink RX4 86 yX4_keepIfLess ∈ lt_tb := lt_in 582 (by decide +kernel) (by decide +kernel)
theorem mlX4_90 : Cond.methodLink RX4 90 yX0_seat ∈ lt_tb := lt_in 587 (by decide +kernel) (by decide +kernel)
theorem mlX4_98 : Cond.methodLink RX4 98 arraycopyName ∈ lt_tb := lt_in 586 (by decide +kernel) (by decide +kernel)
theorem mlX5_3 : Cond.methodLink RX5 3 objectInit ∈ lt_tb := lt_in 78 (by decide +kernel) (by decide +kernel)
theorem mlX6_3 : Cond.methodLink RX6 3 objectInit ∈ lt_tb := lt_in 94 (by decide +kernel) (by decide +kernel)
theorem mlX6_37 : Cond.methodLink RX6 37 yX6_routeIn ∈ lt_tb := lt_in 411 (by decide +kernel) (by decide +kernel)
theorem mlX6_41 : Cond.methodLink RX6 41 yX6_routeOut ∈ lt_tb := lt_in 415 (by decide +kernel) (by decide +kernel)
theorem mlX7_1 : Cond.methodLink RX7 1 objectInit ∈ lt_tb := lt_in 70 (by decide +kernel) (by decide +kernel)
theorem mlX7_103 : Cond.methodLink RX7 103 yX0_workOut ∈ lt_tb := lt_in 392 (by decide +kernel) (by decide +kernel)
theorem mlX7_112 : Cond.methodLink RX7 112 yX6_hasLine ∈ lt_tb := lt_in 480 (by decide +kernel) (by decide +kernel)
theorem mlX7_115 : Cond.methodLink RX7 115 yX6_hasTrack ∈ lt_tb := lt_in 481 (by decide +kernel) (by decide +kernel)
theorem mlX7_118 : Cond.methodLink RX7 118 yX6_switchesOf ∈ lt_tb := lt_in 482 (by decide +kernel) (by decide +kernel)
theorem mlX7_122 : Cond.methodLink RX7 122 yX6_hasTrain ∈ lt_tb := lt_in 490 (by decide +kernel) (by decide +kernel)
theorem mlX7_147 : Cond.methodLink RX7 147 yX7_fittingTracks ∈ lt_tb := lt_in 491 (by decide +kernel) (by decide +kernel)
theorem mlX7_150 : Cond.methodLink RX7 150 yX0_freeTracks ∈ lt_tb := lt_in 496 (by decide +kernel) (by decide +kernel)
theorem mlX7_156 : Cond.methodLink RX7 156 yX6_fits ∈ lt_tb := lt_in 495 (by decide +kernel) (by decide +kernel)
theorem mlX7_160 : Cond.methodLink RX7 160 yX0_isFree ∈ lt_tb := lt_in 512 (by decide +kernel) (by decide +kernel)
theorem mlX7_163 : Cond.methodLink RX7 163 yX1_keep ∈ lt_tb := lt_in 513 (by decide +kernel) (by decide +kernel)
theorem mlX7_167 : Cond.methodLink RX7 167 yX7_placedTrains ∈ lt_tb := lt_in 527 (by decide +kernel) (by decide +kernel)
theorem mlX7_170 : Cond.methodLink RX7 170 yX6_routeIn ∈ lt_tb := lt_in 539 (by decide +kernel) (by decide +kernel)
theorem mlX7_173 : Cond.methodLink RX7 173 yX6_routeOut ∈ lt_tb := lt_in 540 (by decide +kernel) (by decide +kernel)
theorem mlX7_176 : Cond.methodLink RX7 176 yX0_firstAgainst ∈ lt_tb := lt_in 541 (by decide +kernel) (by decide +kernel)
theorem mlX7_179 : Cond.methodLink RX7 179 yX0_kind ∈ lt_tb := lt_in 546 (by decide +kernel) (by decide +kernel)
theorem mlX7_183 : Cond.methodLink RX7 183 yX4_find ∈ lt_tb := lt_in 559 (by decide +kernel) (by decide +kernel)
theorem mlX7_187 : Cond.methodLink RX7 187 yX4_trackless ∈ lt_tb := lt_in 588 (by decide +kernel) (by decide +kernel)
theorem mlX7_193 : Cond.methodLink RX7 193 yX7_wishesMet ∈ lt_tb := lt_in 592 (by decide +kernel) (by decide +kernel)
theorem mlX7_197 : Cond.methodLink RX7 197 yX7_movedBy ∈ lt_tb := lt_in 596 (by decide +kernel) (by decide +kernel)
theorem mlX7_200 : Cond.methodLink RX7 200 arraycopyName ∈ lt_tb := lt_in 604 (by decide +kernel) (by decide +kernel)
theorem mlX7_206 : Cond.methodLink RX7 206 yX4_findAvoiding ∈ lt_tb := lt_in 609 (by decide +kernel) (by decide +kernel)
theorem mlX7_209 : Cond.methodLink RX7 209 yX1_bringBack ∈ lt_tb := lt_in 617 (by decide +kernel) (by decide +kernel)
theorem mlX7_212 : Cond.methodLink RX7 212 yX7_trainsOn ∈ lt_tb := lt_in 625 (by decide +kernel) (by decide +kernel)
theorem mlX7_215 : Cond.methodLink RX7 215 yX7_switchesIn ∈ lt_tb := lt_in 633 (by decide +kernel) (by decide +kernel)
theorem mlX7_218 : Cond.methodLink RX7 218 yX7_minutesOfTrack ∈ lt_tb := lt_in 649 (by decide +kernel) (by decide +kernel)
theorem mlX7_221 : Cond.methodLink RX7 221 yX7_minutesOfSwitch ∈ lt_tb := lt_in 653 (by decide +kernel) (by decide +kernel)
theorem mlX7_227 : Cond.methodLink RX7 227 yX2_comesIn ∈ lt_tb := lt_in 637 (by decide +kernel) (by decide +kernel)
theorem mlX7_230 : Cond.methodLink RX7 230 yX2_goesOut ∈ lt_tb := lt_in 641 (by decide +kernel) (by decide +kernel)
theorem mlX7_32 : Cond.methodLink RX7 32 yX3_init ∈ lt_tb := lt_in 175 (by decide +kernel) (by decide +kernel)
theorem mlX7_44 : Cond.methodLink RX7 44 yX0_init ∈ lt_tb := lt_in 198 (by decide +kernel) (by decide +kernel)
theorem mlX7_53 : Cond.methodLink RX7 53 yX4_init ∈ lt_tb := lt_in 215 (by decide +kernel) (by decide +kernel)
theorem mlX7_62 : Cond.methodLink RX7 62 yX1_init ∈ lt_tb := lt_in 247 (by decide +kernel) (by decide +kernel)
theorem mlX7_69 : Cond.methodLink RX7 69 yJ0_length_8abf5 ∈ lt_tb := lt_in 266 (by decide +kernel) (by decide +kernel)
theorem mlX7_75 : Cond.methodLink RX7 75 yJ0_charAt_5068e ∈ lt_tb := lt_in 276 (by decide +kernel) (by decide +kernel)
theorem mlX7_79 : Cond.methodLink RX7 79 yX7_write ∈ lt_tb := lt_in 314 (by decide +kernel) (by decide +kernel)
theorem mlX7_83 : Cond.methodLink RX7 83 yX7_lay ∈ lt_tb := lt_in 322 (by decide +kernel) (by decide +kernel)
theorem mlX7_86 : Cond.methodLink RX7 86 yX7_wipe ∈ lt_tb := lt_in 439 (by decide +kernel) (by decide +kernel)
theorem mlX7_89 : Cond.methodLink RX7 89 yX5_append ∈ lt_tb := lt_in 318 (by decide +kernel) (by decide +kernel)
theorem mlX7_96 : Cond.methodLink RX7 96 yX3_firstFault ∈ lt_tb := lt_in 326 (by decide +kernel) (by decide +kernel)
theorem mlL_12 : Cond.methodLink RL 12 yX8_init ∈ lt_tb := lt_in 663 (by decide +kernel) (by decide +kernel)
theorem mlL_13 : Cond.methodLink RL 13 yX7_write ∈ lt_tb := lt_in 469 (by decide +kernel) (by decide +kernel)
theorem mlL_17 : Cond.methodLink RL 17 yX8_write ∈ lt_tb := lt_in 726 (by decide +kernel) (by decide +kernel)
theorem mlL_18 : Cond.methodLink RL 18 yX7_wipe ∈ lt_tb := lt_in 470 (by decide +kernel) (by decide +kernel)
theorem mlL_22 : Cond.methodLink RL 22 yX8_wipe ∈ lt_tb := lt_in 733 (by decide +kernel) (by decide +kernel)
theorem mlL_23 : Cond.methodLink RL 23 yX7_fault ∈ lt_tb := lt_in 471 (by decide +kernel) (by decide +kernel)
theorem mlL_26 : Cond.methodLink RL 26 yX8_fault ∈ lt_tb := lt_in 737 (by decide +kernel) (by decide +kernel)
theorem mlL_27 : Cond.methodLink RL 27 yX7_lay ∈ lt_tb := lt_in 475 (by decide +kernel) (by decide +kernel)
theorem mlL_30 : Cond.methodLink RL 30 yX8_lay ∈ lt_tb := lt_in 785 (by decide +kernel) (by decide +kernel)
theorem mlL_31 : Cond.methodLink RL 31 yX7_route ∈ lt_tb := lt_in 476 (by decide +kernel) (by decide +kernel)
theorem mlL_35 : Cond.methodLink RL 35 yX8_route ∈ lt_tb := lt_in 793 (by decide +kernel) (by decide +kernel)
theorem mlL_36 : Cond.methodLink RL 36 yX7_train ∈ lt_tb := lt_in 486 (by decide +kernel) (by decide +kernel)
theorem mlL_39 : Cond.methodLink RL 39 yX8_train ∈ lt_tb := lt_in 805 (by decide +kernel) (by decide +kernel)
theorem mlL_40 : Cond.methodLink RL 40 yX7_give ∈ lt_tb := lt_in 508 (by decide +kernel) (by decide +kernel)
theorem mlL_43 : Cond.methodLink RL 43 yX8_give ∈ lt_tb := lt_in 852 (by decide +kernel) (by decide +kernel)
theorem mlL_44 : Cond.methodLink RL 44 yX7_take ∈ lt_tb := lt_in 531 (by decide +kernel) (by decide +kernel)
theorem mlL_47 : Cond.methodLink RL 47 yX8_take ∈ lt_tb := lt_in 868 (by decide +kernel) (by decide +kernel)
theorem mlL_48 : Cond.methodLink RL 48 yX7_why ∈ lt_tb := lt_in 535 (by decide +kernel) (by decide +kernel)
theorem mlL_51 : Cond.methodLink RL 51 yX8_why ∈ lt_tb := lt_in 872 (by decide +kernel) (by decide +kernel)
theorem mlL_52 : Cond.methodLink RL 52 yX7_clash ∈ lt_tb := lt_in 542 (by decide +kernel) (by decide +kernel)
theorem mlL_56 : Cond.methodLink RL 56 yX8_clash ∈ lt_tb := lt_in 876 (by decide +kernel) (by decide +kernel)
theorem mlL_57 : Cond.methodLink RL 57 yX7_late ∈ lt_tb := lt_in 547 (by decide +kernel) (by decide +kernel)
theorem mlL_60 : Cond.methodLink RL 60 yX8_late ∈ lt_tb := lt_in 880 (by decide +kernel) (by decide +kernel)
theorem mlL_61 : Cond.methodLink RL 61 yX7_wish ∈ lt_tb := lt_in 551 (by decide +kernel) (by decide +kernel)
theorem mlL_64 : Cond.methodLink RL 64 yX8_wish ∈ lt_tb := lt_in 884 (by decide +kernel) (by decide +kernel)
theorem mlL_65 : Cond.methodLink RL 65 yX7_way ∈ lt_tb := lt_in 555 (by decide +kernel) (by decide +kernel)
theorem mlL_68 : Cond.methodLink RL 68 yX8_way ∈ lt_tb := lt_in 888 (by decide +kernel) (by decide +kernel)
theorem mlL_69 : Cond.methodLink RL 69 yX7_adopt ∈ lt_tb := lt_in 600 (by decide +kernel) (by decide +kernel)
theorem mlL_72 : Cond.methodLink RL 72 yX8_adopt ∈ lt_tb := lt_in 931 (by decide +kernel) (by decide +kernel)
theorem mlL_73 : Cond.methodLink RL 73 yX7_without ∈ lt_tb := lt_in 605 (by decide +kernel) (by decide +kernel)
theorem mlL_76 : Cond.methodLink RL 76 yX8_without ∈ lt_tb := lt_in 935 (by decide +kernel) (by decide +kernel)
theorem mlL_77 : Cond.methodLink RL 77 yX7_undo ∈ lt_tb := lt_in 613 (by decide +kernel) (by decide +kernel)
theorem mlL_80 : Cond.methodLink RL 80 yX8_undo ∈ lt_tb := lt_in 789 (by decide +kernel) (by decide +kernel)
theorem mlL_81 : Cond.methodLink RL 81 yX7_on ∈ lt_tb := lt_in 621 (by decide +kernel) (by decide +kernel)
theorem mlL_84 : Cond.methodLink RL 84 yX8_on ∈ lt_tb := lt_in 939 (by decide +kernel) (by decide +kernel)
theorem mlL_85 : Cond.methodLink RL 85 yX7_taken ∈ lt_tb := lt_in 629 (by decide +kernel) (by decide +kernel)
theorem mlL_88 : Cond.methodLink RL 88 yX8_taken ∈ lt_tb := lt_in 947 (by decide +kernel) (by decide +kernel)
theorem mlL_89 : Cond.methodLink RL 89 yX7_use ∈ lt_tb := lt_in 645 (by decide +kernel) (by decide +kernel)
theorem mlL_9 : Cond.methodLink RL 9 yX7_init ∈ lt_tb := lt_in 67 (by decide +kernel) (by decide +kernel)
theorem mlL_92 : Cond.methodLink RL 92 yX8_use ∈ lt_tb := lt_in 955 (by decide +kernel) (by decide +kernel)
theorem mlL_93 : Cond.methodLink RL 93 yX7_count ∈ lt_tb := lt_in 657 (by decide +kernel) (by decide +kernel)
theorem mlL_96 : Cond.methodLink RL 96 yX8_count ∈ lt_tb := lt_in 959 (by decide +kernel) (by decide +kernel)
theorem mlX8_1 : Cond.methodLink RX8 1 objectInit ∈ lt_tb := lt_in 666 (by decide +kernel) (by decide +kernel)
theorem mlX8_102 : Cond.methodLink RX8 102 yX8_isTrack ∈ lt_tb := lt_in 797 (by decide +kernel) (by decide +kernel)
theorem mlX8_106 : Cond.methodLink RX8 106 yX8_routeOf ∈ lt_tb := lt_in 801 (by decide +kernel) (by decide +kernel)
theorem mlX8_110 : Cond.methodLink RX8 110 yX8_of ∈ lt_tb := lt_in 813 (by decide +kernel) (by decide +kernel)
theorem mlX8_113 : Cond.methodLink RX8 113 yX8_wayIn ∈ lt_tb := lt_in 825 (by decide +kernel) (by decide +kernel)
theorem mlX8_116 : Cond.methodLink RX8 116 yX8_wayOut ∈ lt_tb := lt_in 829 (by decide +kernel) (by decide +kernel)
theorem mlX8_119 : Cond.methodLink RX8 119 yX8_meet ∈ lt_tb := lt_in 849 (by decide +kernel) (by decide +kernel)
theorem mlX8_122 : Cond.methodLink RX8 122 yX8_clashOf ∈ lt_tb := lt_in 845 (by decide +kernel) (by decide +kernel)
theorem mlX8_126 : Cond.methodLink RX8 126 yX8_clashing ∈ lt_tb := lt_in 841 (by decide +kernel) (by decide +kernel)
theorem mlX8_129 : Cond.methodLink RX8 129 yX8_doesFit ∈ lt_tb := lt_in 821 (by decide +kernel) (by decide +kernel)
theorem mlX8_132 : Cond.methodLink RX8 132 yX8_whyNot ∈ lt_tb := lt_in 837 (by decide +kernel) (by decide +kernel)
theorem mlX8_135 : Cond.methodLink RX8 135 yX8_isTrain ∈ lt_tb := lt_in 809 (by decide +kernel) (by decide +kernel)
theorem mlX8_138 : Cond.methodLink RX8 138 yX8_fits ∈ lt_tb := lt_in 817 (by decide +kernel) (by decide +kernel)
theorem mlX8_142 : Cond.methodLink RX8 142 yX8_hardOf ∈ lt_tb := lt_in 833 (by decide +kernel) (by decide +kernel)
theorem mlX8_145 : Cond.methodLink RX8 145 yX8_keeps ∈ lt_tb := lt_in 856 (by decide +kernel) (by decide +kernel)
theorem mlX8_148 : Cond.methodLink RX8 148 yX8_becomes ∈ lt_tb := lt_in 860 (by decide +kernel) (by decide +kernel)
theorem mlX8_152 : Cond.methodLink RX8 152 yX8_placed ∈ lt_tb := lt_in 864 (by decide +kernel) (by decide +kernel)
theorem mlX8_155 : Cond.methodLink RX8 155 yX8_asTrack ∈ lt_tb := lt_in 912 (by decide +kernel) (by decide +kernel)
theorem mlX8_158 : Cond.methodLink RX8 158 yX8_noneOf ∈ lt_tb := lt_in 904 (by decide +kernel) (by decide +kernel)
theorem mlX8_161 : Cond.methodLink RX8 161 yX8_like ∈ lt_tb := lt_in 908 (by decide +kernel) (by decide +kernel)
theorem mlX8_170 : Cond.methodLink RX8 170 yX8_laysClashes ∈ lt_tb := lt_in 896 (by decide +kernel) (by decide +kernel)
theorem mlX8_174 : Cond.methodLink RX8 174 yX8_takesIfBetter ∈ lt_tb := lt_in 900 (by decide +kernel) (by decide +kernel)
theorem mlX8_177 : Cond.methodLink RX8 177 yX8_may ∈ lt_tb := lt_in 915 (by decide +kernel) (by decide +kernel)
theorem mlX8_180 : Cond.methodLink RX8 180 yX8_isWorth ∈ lt_tb := lt_in 919 (by decide +kernel) (by decide +kernel)
theorem mlX8_183 : Cond.methodLink RX8 183 yX8_findsWay ∈ lt_tb := lt_in 892 (by decide +kernel) (by decide +kernel)
theorem mlX8_187 : Cond.methodLink RX8 187 yX8_wished ∈ lt_tb := lt_in 923 (by decide +kernel) (by decide +kernel)
theorem mlX8_190 : Cond.methodLink RX8 190 yX8_otherwise ∈ lt_tb := lt_in 927 (by decide +kernel) (by decide +kernel)
theorem mlX8_193 : Cond.methodLink RX8 193 yX8_onTrack ∈ lt_tb := lt_in 943 (by decide +kernel) (by decide +kernel)
theorem mlX8_196 : Cond.methodLink RX8 196 yX8_takenIn ∈ lt_tb := lt_in 951 (by decide +kernel) (by decide +kernel)
theorem mlX8_199 : Cond.methodLink RX8 199 yX8_asWished ∈ lt_tb := lt_in 963 (by decide +kernel) (by decide +kernel)
theorem mlX8_38 : Cond.methodLink RX8 38 yX8_begins ∈ lt_tb := lt_in 667 (by decide +kernel) (by decide +kernel)
theorem mlX8_41 : Cond.methodLink RX8 41 yX8_comes ∈ lt_tb := lt_in 671 (by decide +kernel) (by decide +kernel)
theorem mlX8_45 : Cond.methodLink RX8 45 yX8_takesAll ∈ lt_tb := lt_in 675 (by decide +kernel) (by decide +kernel)
theorem mlX8_58 : Cond.methodLink RX8 58 yX8_in ∈ lt_tb := lt_in 730 (by decide +kernel) (by decide +kernel)
theorem mlX8_62 : Cond.methodLink RX8 62 yX8_isAt ∈ lt_tb := lt_in 765 (by decide +kernel) (by decide +kernel)
theorem mlX8_69 : Cond.methodLink RX8 69 yX8_takesNumber ∈ lt_tb := lt_in 761 (by decide +kernel) (by decide +kernel)
theorem mlX8_73 : Cond.methodLink RX8 73 yX8_takesNumbers ∈ lt_tb := lt_in 757 (by decide +kernel) (by decide +kernel)
theorem mlX8_76 : Cond.methodLink RX8 76 yX8_isWord ∈ lt_tb := lt_in 749 (by decide +kernel) (by decide +kernel)
theorem mlX8_80 : Cond.methodLink RX8 80 yX8_takesYard ∈ lt_tb := lt_in 753 (by decide +kernel) (by decide +kernel)
theorem mlX8_83 : Cond.methodLink RX8 83 yX8_takesPath ∈ lt_tb := lt_in 769 (by decide +kernel) (by decide +kernel)
theorem mlX8_86 : Cond.methodLink RX8 86 yX8_takesTrain ∈ lt_tb := lt_in 773 (by decide +kernel) (by decide +kernel)
theorem mlX8_89 : Cond.methodLink RX8 89 yX8_takesPair ∈ lt_tb := lt_in 777 (by decide +kernel) (by decide +kernel)
theorem mlX8_92 : Cond.methodLink RX8 92 yX8_takesGap ∈ lt_tb := lt_in 781 (by decide +kernel) (by decide +kernel)
theorem mlX8_95 : Cond.methodLink RX8 95 yX8_takesItem ∈ lt_tb := lt_in 745 (by decide +kernel) (by decide +kernel)
theorem mlX8_98 : Cond.methodLink RX8 98 yX8_reads ∈ lt_tb := lt_in 741 (by decide +kernel) (by decide +kernel)
theorem mlJ0_1059 : Cond.methodLink RJ0 1059 yJ3_checkIndex_8e157 ∈ lt_tb := lt_in 292 (by decide +kernel) (by decide +kernel)
theorem mlJ0_335 : Cond.methodLink RJ0 335 yJ0_coder_7d493 ∈ lt_tb := lt_in 270 (by decide +kernel) (by decide +kernel)
theorem mlJ0_492 : Cond.methodLink RJ0 492 yJ0_isLatin1_aae02 ∈ lt_tb := lt_in 280 (by decide +kernel) (by decide +kernel)
theorem mlJ0_495 : Cond.methodLink RJ0 495 yJ1_charAt_3b067 ∈ lt_tb := lt_in 284 (by decide +kernel) (by decide +kernel)
theorem mlJ0_498 : Cond.methodLink RJ0 498 yJ2_charAt_3b067 ∈ lt_tb := lt_in 295 (by decide +kernel) (by decide +kernel)
theorem mlJ1_9 : Cond.methodLink RJ1 9 yJ0_checkIndex_df160 ∈ lt_tb := lt_in 287 (by decide +kernel) (by decide +kernel)
theorem mlJ2_414 : Cond.methodLink RJ2 414 yJ0_checkIndex_df160 ∈ lt_tb := lt_in 304 (by decide +kernel) (by decide +kernel)
theorem mlJ2_48 : Cond.methodLink RJ2 48 yJ2_length_9d52b ∈ lt_tb := lt_in 301 (by decide +kernel) (by decide +kernel)
theorem mlJ2_67 : Cond.methodLink RJ2 67 yJ2_checkIndex_2214a ∈ lt_tb := lt_in 298 (by decide +kernel) (by decide +kernel)
theorem mlJ2_71 : Cond.methodLink RJ2 71 yJ2_getChar_3b067 ∈ lt_tb := lt_in 305 (by decide +kernel) (by decide +kernel)
theorem inX0 : Cond.instantiable RX0 3 ∈ lt_tb := lt_in 197 (by decide +kernel) (by decide +kernel)
theorem izX0 : Cond.initialized RX0 ∈ lt_tb := lt_in 55 (by decide +kernel) (by decide +kernel)
theorem inX1 : Cond.instantiable RX1 3 ∈ lt_tb := lt_in 246 (by decide +kernel) (by decide +kernel)
theorem izX1 : Cond.initialized RX1 ∈ lt_tb := lt_in 57 (by decide +kernel) (by decide +kernel)
theorem inX2 : Cond.instantiable RX2 4 ∈ lt_tb := lt_in 142 (by decide +kernel) (by decide +kernel)
theorem izX2 : Cond.initialized RX2 ∈ lt_tb := lt_in 53 (by decide +kernel) (by decide +kernel)
theorem inX3 : Cond.instantiable RX3 5 ∈ lt_tb := lt_in 174 (by decide +kernel) (by decide +kernel)
theorem izX3 : Cond.initialized RX3 ∈ lt_tb := lt_in 54 (by decide +kernel) (by decide +kernel)
theorem inX4 : Cond.instantiable RX4 8 ∈ lt_tb := lt_in 214 (by decide +kernel) (by decide +kernel)
theorem izX4 : Cond.initialized RX4 ∈ lt_tb := lt_in 56 (by decide +kernel) (by decide +kernel)
theorem inX5 : Cond.instantiable RX5 2 ∈ lt_tb := lt_in 74 (by decide +kernel) (by decide +kernel)
theorem izX5 : Cond.initialized RX5 ∈ lt_tb := lt_in 51 (by decide +kernel) (by decide +kernel)
theorem inX6 : Cond.instantiable RX6 8 ∈ lt_tb := lt_in 90 (by decide +kernel) (by decide +kernel)
theorem izX6 : Cond.initialized RX6 ∈ lt_tb := lt_in 52 (by decide +kernel) (by decide +kernel)
theorem inX7 : Cond.instantiable RX7 8 ∈ lt_tb := lt_in 66 (by decide +kernel) (by decide +kernel)
theorem izX7 : Cond.initialized RX7 ∈ lt_tb := lt_in 50 (by decide +kernel) (by decide +kernel)
theorem inX8 : Cond.instantiable RX8 15 ∈ lt_tb := lt_in 662 (by decide +kernel) (by decide +kernel)
theorem izX8 : Cond.initialized RX8 ∈ lt_tb := lt_in 63 (by decide +kernel) (by decide +kernel)
theorem ar_int : Cond.arrayClass .int ∈ lt_tb := lt_in 140 (by decide +kernel) (by decide +kernel)
theorem ar_char : Cond.arrayClass .char ∈ lt_tb := lt_in 88 (by decide +kernel) (by decide +kernel)
theorem ar_boolean : Cond.arrayClass .boolean ∈ lt_tb := lt_in 725 (by decide +kernel) (by decide +kernel)
theorem ac_1 : Cond.native arraycopyName ∈ lt_tb := lt_in 523 (by decide +kernel) (by decide +kernel)
theorem ac_2 : Cond.static arraycopyName ∈ lt_tb := lt_in 522 (by decide +kernel) (by decide +kernel)
theorem ac_3 : Cond.initialized "java/lang/System" ∈ lt_tb := lt_in 64 (by decide +kernel) (by decide +kernel)
theorem mm_max1 : Cond.static Lib.Math.max.name ∈ lt_tb := lt_in 428 (by decide +kernel) (by decide +kernel)
theorem mm_max3 : Cond.code Lib.Math.max.name Lib.Math.max.code 2 (some .int) ∈ lt_tb := lt_in 429 (by decide +kernel) (by decide +kernel)
theorem mm_min1 : Cond.static Lib.Math.min.name ∈ lt_tb := lt_in 525 (by decide +kernel) (by decide +kernel)
theorem mm_min3 : Cond.code Lib.Math.min.name Lib.Math.min.code 2 (some .int) ∈ lt_tb := lt_in 526 (by decide +kernel) (by decide +kernel)
theorem mm_2 : Cond.initialized "java/lang/Math" ∈ lt_tb := lt_in 62 (by decide +kernel) (by decide +kernel)
theorem oi_1 : Cond.instanceMethod objectInit ∈ lt_tb := lt_in 71 (by decide +kernel) (by decide +kernel)
theorem oi_2 : Cond.code objectInit ⟨#[0xb1]⟩ 1 none ∈ lt_tb := lt_in 72 (by decide +kernel) (by decide +kernel)
end
section
/-! the shape of all cells: the class's 10 to 75, the reference's 76 to 85 -/
def lt_SC : lt_H := [.inr (.inr (7, [some (.ref 11), some (.ref 13), some (.ref 18), some (.ref 23), some (.ref 25), some (.ref 37), some (.ref 39), some (.ref 44)])), .inr (.inr (5, [some (.ref 12), none])), .inl (1, 200), .inr (.inr (6, [none, none, none, none, some (.ref 14), some (.ref 15), some (.ref 16), some (.ref 17)])), .inl (0, 12), .inl (0, 7), .inl (0, 7), .inl (0, 7), .inr (.inr (2, [some (.ref 19), some (.ref 20), some (.ref 21), some (.ref 22)])), .inl (0, 7), .inl (0, 7), .inl (0, 7), .inl (0, 7), .inr (.inr (3, [some (.ref 11), some (.ref 13), some (.ref 18), some (.ref 24), none])), .inl (0, 6), .inr (.inr (3, [some (.ref 11), some (.ref 26), some (.ref 31), some (.ref 36), none])), .inr (.inr (6, [none, none, none, none, some (.ref 27), some (.ref 28), some (.ref 29), some (.ref 30)])), .inl (0, 12), .inl (0, 7), .inl (0, 7), .inl (0, 7), .inr (.inr (2, [some (.ref 32), some (.ref 33), some (.ref 34), some (.ref 35)])), .inl (0, 7), .inl (0, 7), .inl (0, 7), .inl (0, 7), .inl (0, 6), .inr (.inr (0, [some (.ref 13), some (.ref 18), some (.ref 38)])), .inl (0, 28), .inr (.inr (4, [some (.ref 13), some (.ref 18), some (.ref 37), some (.ref 40), some (.ref 41), some (.ref 42), some (.ref 43), none])), .inl (0, 35), .inl (0, 8), .inl (0, 7), .inl (0, 7), .inr (.inr (1, [some (.ref 45), none, none])), .inr (.inl [some 46, some 51, some 56, some 61, some 66, some 71]), .inr (.inr (2, [some (.ref 47), some (.ref 48), some (.ref 49), some (.ref 50)])), .inl (0, 7), .inl (0, 7), .inl (0, 7), .inl (0, 7), .inr (.inr (2, [some (.ref 52), some (.ref 53), some (.ref 54), some (.ref 55)])), .inl (0, 7), .inl (0, 7), .inl (0, 7), .inl (0, 7), .inr (.inr (2, [some (.ref 57), some (.ref 58), some (.ref 59), some (.ref 60)])), .inl (0, 7), .inl (0, 7), .inl (0, 7), .inl (0, 7), .inr (.inr (2, [some (.ref 62), some (.ref 63), some (.ref 64), some (.ref 65)])), .inl (0, 7), .inl (0, 7), .inl (0, 7), .inl (0, 7), .inr (.inr (2, [some (.ref 67), some (.ref 68), some (.ref 69), some (.ref 70)])), .inl (0, 7), .inl (0, 7), .inl (0, 7), .inl (0, 7), .inr (.inr (2, [some (.ref 72), some (.ref 73), some (.ref 74), some (.ref 75)])), .inl (0, 7), .inl (0, 7), .inl (0, 7), .inl (0, 7)]
def lt_SM : lt_H := [.inr (.inr (8, [some (.ref 77), some (.ref 78), some (.ref 79), none, some (.ref 80), none, none, some (.ref 81), none, some (.ref 82), some (.ref 83), some (.ref 84), some (.ref 85), none, none])), .inl (0, 65), .inl (0, 65), .inl (0, 390), .inl (0, 200), .inl (0, 6), .inl (2, 28), .inl (2, 784), .inl (0, 7), .inl (0, 7)]
def lt_SA : lt_H := lt_SC ++ lt_SM
theorem at_10 (t : lt_H) : lt_at (lt_SC ++ t) 10 = some (.inr (.inr (7, [some (.ref 11), some (.ref 13), some (.ref 18), some (.ref 23), some (.ref 25), some (.ref 37), some (.ref 39), some (.ref 44)]))) := rfl
theorem at_11 (t : lt_H) : lt_at (lt_SC ++ t) 11 = some (.inr (.inr (5, [some (.ref 12), none]))) := rfl
theorem at_12 (t : lt_H) : lt_at (lt_SC ++ t) 12 = some (.inl (1, 200)) := rfl
theorem at_13 (t : lt_H) : lt_at (lt_SC ++ t) 13 = some (.inr (.inr (6, [none, none, none, none, some (.ref 14), some (.ref 15), some (.ref 16), some (.ref 17)]))) := rfl
theorem at_14 (t : lt_H) : lt_at (lt_SC ++ t) 14 = some (.inl (0, 12)) := rfl
theorem at_15 (t : lt_H) : lt_at (lt_SC ++ t) 15 = some (.inl (0, 7)) := rfl
theorem at_16 (t : lt_H) : lt_at (lt_SC ++ t) 16 = some (.inl (0, 7)) := rfl
theorem at_17 (t : lt_H) : lt_at (lt_SC ++ t) 17 = some (.inl (0, 7)) := rfl
theorem at_18 (t : lt_H) : lt_at (lt_SC ++ t) 18 = some (.inr (.inr (2, [some (.ref 19), some (.ref 20), some (.ref 21), some (.ref 22)]))) := rfl
theorem at_19 (t : lt_H) : lt_at (lt_SC ++ t) 19 = some (.inl (0, 7)) := rfl
theorem at_20 (t : lt_H) : lt_at (lt_SC ++ t) 20 = some (.inl (0, 7)) := rfl
theorem at_21 (t : lt_H) : lt_at (lt_SC ++ t) 21 = some (.inl (0, 7)) := rfl
theorem at_22 (t : lt_H) : lt_at (lt_SC ++ t) 22 = some (.inl (0, 7)) := rfl
theorem at_23 (t : lt_H) : lt_at (lt_SC ++ t) 23 = some (.inr (.inr (3, [some (.ref 11), some (.ref 13), some (.ref 18), some (.ref 24), none]))) := rfl
theorem at_24 (t : lt_H) : lt_at (lt_SC ++ t) 24 = some (.inl (0, 6)) := rfl
theorem at_25 (t : lt_H) : lt_at (lt_SC ++ t) 25 = some (.inr (.inr (3, [some (.ref 11), some (.ref 26), some (.ref 31), some (.ref 36), none]))) := rfl
theorem at_26 (t : lt_H) : lt_at (lt_SC ++ t) 26 = some (.inr (.inr (6, [none, none, none, none, some (.ref 27), some (.ref 28), some (.ref 29), some (.ref 30)]))) := rfl
theorem at_27 (t : lt_H) : lt_at (lt_SC ++ t) 27 = some (.inl (0, 12)) := rfl
theorem at_28 (t : lt_H) : lt_at (lt_SC ++ t) 28 = some (.inl (0, 7)) := rfl
theorem at_29 (t : lt_H) : lt_at (lt_SC ++ t) 29 = some (.inl (0, 7)) := rfl
theorem at_30 (t : lt_H) : lt_at (lt_SC ++ t) 30 = some (.inl (0, 7)) := rfl
theorem at_31 (t : lt_H) : lt_at (lt_SC ++ t) 31 = some (.inr (.inr (2, [some (.ref 32), some (.ref 33), some (.ref 34), some (.ref 35)]))) := rfl
theorem at_32 (t : lt_H) : lt_at (lt_SC ++ t) 32 = some (.inl (0, 7)) := rfl
theorem at_33 (t : lt_H) : lt_at (lt_SC ++ t) 33 = some (.inl (0, 7)) := rfl
theorem at_34 (t : lt_H) : lt_at (lt_SC ++ t) 34 = some (.inl (0, 7)) := rfl
theorem at_35 (t : lt_H) : lt_at (lt_SC ++ t) 35 = some (.inl (0, 7)) := rfl
theorem at_36 (t : lt_H) : lt_at (lt_SC ++ t) 36 = some (.inl (0, 6)) := rfl
theorem at_37 (t : lt_H) : lt_at (lt_SC ++ t) 37 = some (.inr (.inr (0, [some (.ref 13), some (.ref 18), some (.ref 38)]))) := rfl
theorem at_38 (t : lt_H) : lt_at (lt_SC ++ t) 38 = some (.inl (0, 28)) := rfl
theorem at_39 (t : lt_H) : lt_at (lt_SC ++ t) 39 = some (.inr (.inr (4, [some (.ref 13), some (.ref 18), some (.ref 37), some (.ref 40), some (.ref 41), some (.ref 42), some (.ref 43), none]))) := rfl
theorem at_40 (t : lt_H) : lt_at (lt_SC ++ t) 40 = some (.inl (0, 35)) := rfl
theorem at_41 (t : lt_H) : lt_at (lt_SC ++ t) 41 = some (.inl (0, 8)) := rfl
theorem at_42 (t : lt_H) : lt_at (lt_SC ++ t) 42 = some (.inl (0, 7)) := rfl
theorem at_43 (t : lt_H) : lt_at (lt_SC ++ t) 43 = some (.inl (0, 7)) := rfl
theorem at_44 (t : lt_H) : lt_at (lt_SC ++ t) 44 = some (.inr (.inr (1, [some (.ref 45), none, none]))) := rfl
theorem at_45 (t : lt_H) : lt_at (lt_SC ++ t) 45 = some (.inr (.inl [some 46, some 51, some 56, some 61, some 66, some 71])) := rfl
theorem at_46 (t : lt_H) : lt_at (lt_SC ++ t) 46 = some (.inr (.inr (2, [some (.ref 47), some (.ref 48), some (.ref 49), some (.ref 50)]))) := rfl
theorem at_47 (t : lt_H) : lt_at (lt_SC ++ t) 47 = some (.inl (0, 7)) := rfl
theorem at_48 (t : lt_H) : lt_at (lt_SC ++ t) 48 = some (.inl (0, 7)) := rfl
theorem at_49 (t : lt_H) : lt_at (lt_SC ++ t) 49 = some (.inl (0, 7)) := rfl
theorem at_50 (t : lt_H) : lt_at (lt_SC ++ t) 50 = some (.inl (0, 7)) := rfl
theorem at_51 (t : lt_H) : lt_at (lt_SC ++ t) 51 = some (.inr (.inr (2, [some (.ref 52), some (.ref 53), some (.ref 54), some (.ref 55)]))) := rfl
theorem at_52 (t : lt_H) : lt_at (lt_SC ++ t) 52 = some (.inl (0, 7)) := rfl
theorem at_53 (t : lt_H) : lt_at (lt_SC ++ t) 53 = some (.inl (0, 7)) := rfl
theorem at_54 (t : lt_H) : lt_at (lt_SC ++ t) 54 = some (.inl (0, 7)) := rfl
theorem at_55 (t : lt_H) : lt_at (lt_SC ++ t) 55 = some (.inl (0, 7)) := rfl
theorem at_56 (t : lt_H) : lt_at (lt_SC ++ t) 56 = some (.inr (.inr (2, [some (.ref 57), some (.ref 58), some (.ref 59), some (.ref 60)]))) := rfl
theorem at_57 (t : lt_H) : lt_at (lt_SC ++ t) 57 = some (.inl (0, 7)) := rfl
theorem at_58 (t : lt_H) : lt_at (lt_SC ++ t) 58 = some (.inl (0, 7)) := rfl
theorem at_59 (t : lt_H) : lt_at (lt_SC ++ t) 59 = some (.inl (0, 7)) := rfl
theorem at_60 (t : lt_H) : lt_at (lt_SC ++ t) 60 = some (.inl (0, 7)) := rfl
theorem at_61 (t : lt_H) : lt_at (lt_SC ++ t) 61 = some (.inr (.inr (2, [some (.ref 62), some (.ref 63), some (.ref 64), some (.ref 65)]))) := rfl
theorem at_62 (t : lt_H) : lt_at (lt_SC ++ t) 62 = some (.inl (0, 7)) := rfl
theorem at_63 (t : lt_H) : lt_at (lt_SC ++ t) 63 = some (.inl (0, 7)) := rfl
theorem at_64 (t : lt_H) : lt_at (lt_SC ++ t) 64 = some (.inl (0, 7)) := rfl
theorem at_65 (t : lt_H) : lt_at (lt_SC ++ t) 65 = some (.inl (0, 7)) := rfl
theorem at_66 (t : lt_H) : lt_at (lt_SC ++ t) 66 = some (.inr (.inr (2, [some (.ref 67), some (.ref 68), some (.ref 69), some (.ref 70)]))) := rfl
theorem at_67 (t : lt_H) : lt_at (lt_SC ++ t) 67 = some (.inl (0, 7)) := rfl
theorem at_68 (t : lt_H) : lt_at (lt_SC ++ t) 68 = some (.inl (0, 7)) := rfl
theorem at_69 (t : lt_H) : lt_at (lt_SC ++ t) 69 = some (.inl (0, 7)) := rfl
theorem at_70 (t : lt_H) : lt_at (lt_SC ++ t) 70 = some (.inl (0, 7)) := rfl
theorem at_71 (t : lt_H) : lt_at (lt_SC ++ t) 71 = some (.inr (.inr (2, [some (.ref 72), some (.ref 73), some (.ref 74), some (.ref 75)]))) := rfl
theorem at_72 (t : lt_H) : lt_at (lt_SC ++ t) 72 = some (.inl (0, 7)) := rfl
theorem at_73 (t : lt_H) : lt_at (lt_SC ++ t) 73 = some (.inl (0, 7)) := rfl
theorem at_74 (t : lt_H) : lt_at (lt_SC ++ t) 74 = some (.inl (0, 7)) := rfl
theorem at_75 (t : lt_H) : lt_at (lt_SC ++ t) 75 = some (.inl (0, 7)) := rfl
theorem at_76 : lt_at lt_SA 76 = some (.inr (.inr (8, [some (.ref 77), some (.ref 78), some (.ref 79), none, some (.ref 80), none, none, some (.ref 81), none, some (.ref 82), some (.ref 83), some (.ref 84), some (.ref 85), none, none]))) := rfl
theorem at_77 : lt_at lt_SA 77 = some (.inl (0, 65)) := rfl
theorem at_78 : lt_at lt_SA 78 = some (.inl (0, 65)) := rfl
theorem at_79 : lt_at lt_SA 79 = some (.inl (0, 390)) := rfl
theorem at_80 : lt_at lt_SA 80 = some (.inl (0, 200)) := rfl
theorem at_81 : lt_at lt_SA 81 = some (.inl (0, 6)) := rfl
theorem at_82 : lt_at lt_SA 82 = some (.inl (2, 28)) := rfl
theorem at_83 : lt_at lt_SA 83 = some (.inl (2, 784)) := rfl
theorem at_84 : lt_at lt_SA 84 = some (.inl (0, 7)) := rfl
theorem at_85 : lt_at lt_SA 85 = some (.inl (0, 7)) := rfl
/-- a contract with one answer and one store behind it, no new cell -/
abbrev lt_E (r : Option Int32) (sh : lt_H) (σ' : lt_S) : lt_Q := fun r' sh' s' => r' = r ∧ sh' = sh ∧ s' = σ'
abbrev lt_g (l : lt_L) (d : Nat) (M : lt_M) (sh : lt_H) (σ : lt_S) (pc : Nat) (L : List (Option Value)) (st : List Value) (r : Option Int32) (σ' : lt_S) : Prop := lt_G l d 0 0 M 0 0 sh σ pc L st (lt_E r sh σ')
def lt_T (l : lt_L) (d : Nat) (M : lt_M) (sh : lt_H) (σ : lt_S) (as : List Value) (r : Option Int32) (σ' : lt_S) : Prop := lt_R l d 0 0 M sh σ as (lt_E r sh σ')
def bI (b : Bool) : Int32 := if b then nI 1 else nI 0
theorem bI_t : bI true = nI 1 := rfl
theorem bI_f : bI false = nI 0 := rfl
theorem bI_nar (b : Bool) : narrow .boolean (.int (bI b)) = .int (bI b) := by cases b <;> rfl
theorem bI_vp (b : Bool) : vp_nar .boolean (bI b) = bI b := by cases b <;> rfl
theorem bI_eq0 {b : Bool} : bI b = 0 ↔ b = false := by cases b <;> decide
theorem lt_T.of {l : lt_L} {d : Nat} {M : lt_M} {sh : lt_H} {σ σ' : lt_S} {as : List Value} {r : Option Int32} (L : List (Option Value)) (hy : plainName M.1.cls = true) (hL : as.map some ++ List.replicate (M.2.2.1 - as.length) none = L) (hlen : as.length ≤ M.2.2.1) (g : lt_g l d M sh σ 0 L [] r σ') : lt_T l d M sh σ as r σ' := lt_R.of L hy hL hlen g
section LT4
variable {l : lt_L} {d mc ms : Nat} {M : lt_M} {ck cn : Nat} {sh : lt_H} {σ : lt_S} {pc : Nat} {L : List (Option Value)} {st : List Value} {Q : lt_Q}
theorem g_cVi {a idx ci n pc2 : Nat} {M' : lt_M} {as stk : List Value} {fs : List (Option Value)} {x : Int32} {σ' : lt_S} (hR : lt_T l d M' sh σ (.ref a :: as) (some x) σ') (me : lt_meV M' n) (lk : Cond.methodLink M.1.cls idx M'.1 ∈ lt_tb) (hs : lt_at sh a = some (.inr (.inr (ci, fs)))) (hc : ∃ r, vwCl[ci]? = some r ∧ r.1 = M'.1.cls)
    (hn : as.length = n) (hstk : stk = as.reverse ++ .ref a :: st) (hst : st.length ≤ 8) (hcell : ck ≤ mc ∧ cn ≤ ms) (hd : decode M.2.1 pc = .ok (.invokevirtual idx, 3)) (he : pc + 3 = pc2)
    (kk : lt_G l (d + 1) mc ms M ck cn sh σ' pc2 L (.int x :: st) Q) : lt_G l (d + 1) mc ms M ck cn sh σ pc L stk Q :=
  g_callV hR me lk hs hc hn hstk hst hcell hd he (fun r sh' s' h => by obtain ⟨rfl, rfl, rfl⟩ := h; exact kk)
theorem g_cVv {a idx ci n pc2 : Nat} {M' : lt_M} {as stk : List Value} {fs : List (Option Value)} {σ' : lt_S} (hR : lt_T l d M' sh σ (.ref a :: as) none σ') (me : lt_meV M' n) (lk : Cond.methodLink M.1.cls idx M'.1 ∈ lt_tb) (hs : lt_at sh a = some (.inr (.inr (ci, fs)))) (hc : ∃ r, vwCl[ci]? = some r ∧ r.1 = M'.1.cls)
    (hn : as.length = n) (hstk : stk = as.reverse ++ .ref a :: st) (hst : st.length ≤ 8) (hcell : ck ≤ mc ∧ cn ≤ ms) (hd : decode M.2.1 pc = .ok (.invokevirtual idx, 3)) (he : pc + 3 = pc2)
    (kk : lt_G l (d + 1) mc ms M ck cn sh σ' pc2 L st Q) : lt_G l (d + 1) mc ms M ck cn sh σ pc L stk Q :=
  g_callV hR me lk hs hc hn hstk hst hcell hd he (fun r sh' s' h => by obtain ⟨rfl, rfl, rfl⟩ := h; exact kk)
theorem g_cSi {idx n pc2 : Nat} {M' : lt_M} {as stk : List Value} {x : Int32} {σ' : lt_S} (hR : lt_T l d M' sh σ as (some x) σ') (me : lt_meS M' n) (lk : Cond.methodLink M.1.cls idx M'.1 ∈ lt_tb)
    (hn : as.length = n) (hstk : stk = as.reverse ++ st) (hst : st.length ≤ 8) (hcell : ck ≤ mc ∧ cn ≤ ms) (hd : decode M.2.1 pc = .ok (.invokestatic idx, 3)) (he : pc + 3 = pc2)
    (kk : lt_G l (d + 1) mc ms M ck cn sh σ' pc2 L (.int x :: st) Q) : lt_G l (d + 1) mc ms M ck cn sh σ pc L stk Q :=
  g_callS hR me lk hn hstk hst hcell hd he (fun r sh' s' h => by obtain ⟨rfl, rfl, rfl⟩ := h; exact kk)
theorem g_cSv {idx n pc2 : Nat} {M' : lt_M} {as stk : List Value} {σ' : lt_S} (hR : lt_T l d M' sh σ as none σ') (me : lt_meS M' n) (lk : Cond.methodLink M.1.cls idx M'.1 ∈ lt_tb)
    (hn : as.length = n) (hstk : stk = as.reverse ++ st) (hst : st.length ≤ 8) (hcell : ck ≤ mc ∧ cn ≤ ms) (hd : decode M.2.1 pc = .ok (.invokestatic idx, 3)) (he : pc + 3 = pc2)
    (kk : lt_G l (d + 1) mc ms M ck cn sh σ' pc2 L st Q) : lt_G l (d + 1) mc ms M ck cn sh σ pc L stk Q :=
  g_callS hR me lk hn hstk hst hcell hd he (fun r sh' s' h => by obtain ⟨rfl, rfl, rfl⟩ := h; exact kk)
theorem g_if_eqB {b : Bool} {off : Int} (tgt pc2 : Nat) (hd : decode M.2.1 pc = .ok (.ifCond .eq off, 3)) (ht : (pc : Int) + off = (tgt : Int)) (he : pc + 3 = pc2) (kt : b = false → lt_G l d mc ms M ck cn sh σ tgt L st Q) (kf : b = true → lt_G l d mc ms M ck cn sh σ pc2 L st Q) : lt_G l d mc ms M ck cn sh σ pc L (.int (bI b) :: st) Q :=
  g_if_eq tgt pc2 hd ht he (fun h => kt (bI_eq0.mp h)) (fun h => kf (by cases b; exact absurd rfl h; rfl))
theorem g_if_neB {b : Bool} {off : Int} (tgt pc2 : Nat) (hd : decode M.2.1 pc = .ok (.ifCond .ne off, 3)) (ht : (pc : Int) + off = (tgt : Int)) (he : pc + 3 = pc2) (kt : b = true → lt_G l d mc ms M ck cn sh σ tgt L st Q) (kf : b = false → lt_G l d mc ms M ck cn sh σ pc2 L st Q) : lt_G l d mc ms M ck cn sh σ pc L (.int (bI b) :: st) Q :=
  g_if_ne tgt pc2 hd ht he (fun h => kt (by cases b; exact absurd rfl h; rfl)) (fun h => kf (bI_eq0.mp h))
theorem g_iretT {x y : Int32} {σ0 : lt_S} (hd : decode M.2.1 pc = .ok (.ireturn, 1)) (hm : M.2.2.2 = some .int) (hc : ck ≤ mc) (hs : cn ≤ ms) (k : x = y) (k2 : σ = σ0) : lt_G l d mc ms M ck cn sh σ pc L [.int x] (lt_E (some y) sh σ0) := g_iret hd hm hc hs ⟨congrArg some k, rfl, k2⟩
theorem g_zretT {x : Int32} {b : Bool} {σ0 : lt_S} (hd : decode M.2.1 pc = .ok (.ireturn, 1)) (hm : M.2.2.2 = some .boolean) (hc : ck ≤ mc) (hs : cn ≤ ms) (k : x = bI b) (k2 : σ = σ0) : lt_G l d mc ms M ck cn sh σ pc L [.int x] (lt_E (some (bI b)) sh σ0) := g_zret hd hm (by rw [k]; exact bI_nar b) hc hs ⟨congrArg some k, rfl, k2⟩
theorem g_retT {σ0 : lt_S} (hd : decode M.2.1 pc = .ok (.return_, 1)) (hm : M.2.2.2 = none) (hc : ck ≤ mc) (hs : cn ≤ ms) (k2 : σ = σ0) : lt_G l d mc ms M ck cn sh σ pc L [] (lt_E none sh σ0) := g_ret hd hm hc hs ⟨rfl, rfl, k2⟩
end LT4
/-- down a loop -/
theorem lt_dn {P : Nat → Prop} (n : Nat) (h0 : P n) (hs : ∀ k, k < n → P (k + 1) → P k) : ∀ k, k ≤ n → P k := by
  intro k hk
  induction h : n - k generalizing k with
  | zero => have : k = n := by omega
            rw [this]; exact h0
  | succ m ih => exact hs k (by omega) (ih (k + 1) (by omega) (by omega))
/-- a number as a natural one -/
def tN (x : Int32) : Nat := x.toNatClampNeg
theorem tN_nI {n : Nat} (h : n < 2 ^ 31) : tN (nI n) = n := nI_clamp h
theorem nI_inc (k : Nat) : nI k + Int32.ofInt 1 = nI (k + 1) := nI_1 k
theorem k_iconst_m1 : Int32.ofInt (-1) = (-1 : Int32) := by decide +kernel
theorem k_iconst_0 : Int32.ofInt 0 = nI 0 := by decide +kernel
theorem k_iconst_1 : Int32.ofInt 1 = nI 1 := by decide +kernel
theorem k_iconst_2 : Int32.ofInt 2 = nI 2 := by decide +kernel
theorem k_iconst_3 : Int32.ofInt 3 = nI 3 := by decide +kernel
theorem k_iconst_4 : Int32.ofInt 4 = nI 4 := by decide +kernel
theorem k_iconst_5 : Int32.ofInt 5 = nI 5 := by decide +kernel
theorem k_bipush_m20 : (Int8.ofInt (-20)).toInt32 = (-20 : Int32) := by decide +kernel
theorem k_bipush_m4 : (Int8.ofInt (-4)).toInt32 = (-4 : Int32) := by decide +kernel
theorem k_bipush_m3 : (Int8.ofInt (-3)).toInt32 = (-3 : Int32) := by decide +kernel
theorem k_bipush_m2 : (Int8.ofInt (-2)).toInt32 = (-2 : Int32) := by decide +kernel
theorem k_bipush_6 : (Int8.ofInt 6).toInt32 = nI 6 := by decide +kernel
theorem k_bipush_7 : (Int8.ofInt 7).toInt32 = nI 7 := by decide +kernel
theorem k_bipush_8 : (Int8.ofInt 8).toInt32 = nI 8 := by decide +kernel
theorem k_bipush_9 : (Int8.ofInt 9).toInt32 = nI 9 := by decide +kernel
theorem k_bipush_10 : (Int8.ofInt 10).toInt32 = nI 10 := by decide +kernel
theorem k_bipush_11 : (Int8.ofInt 11).toInt32 = nI 11 := by decide +kernel
theorem k_bipush_12 : (Int8.ofInt 12).toInt32 = nI 12 := by decide +kernel
theorem k_bipush_14 : (Int8.ofInt 14).toInt32 = nI 14 := by decide +kernel
theorem k_bipush_15 : (Int8.ofInt 15).toInt32 = nI 15 := by decide +kernel
theorem k_bipush_16 : (Int8.ofInt 16).toInt32 = nI 16 := by decide +kernel
theorem k_bipush_18 : (Int8.ofInt 18).toInt32 = nI 18 := by decide +kernel
theorem k_bipush_20 : (Int8.ofInt 20).toInt32 = nI 20 := by decide +kernel
theorem k_bipush_22 : (Int8.ofInt 22).toInt32 = nI 22 := by decide +kernel
theorem k_bipush_25 : (Int8.ofInt 25).toInt32 = nI 25 := by decide +kernel
theorem k_bipush_28 : (Int8.ofInt 28).toInt32 = nI 28 := by decide +kernel
theorem k_bipush_30 : (Int8.ofInt 30).toInt32 = nI 30 := by decide +kernel
theorem k_bipush_31 : (Int8.ofInt 31).toInt32 = nI 31 := by decide +kernel
theorem k_bipush_32 : (Int8.ofInt 32).toInt32 = nI 32 := by decide +kernel
theorem k_bipush_35 : (Int8.ofInt 35).toInt32 = nI 35 := by decide +kernel
theorem k_bipush_44 : (Int8.ofInt 44).toInt32 = nI 44 := by decide +kernel
theorem k_bipush_48 : (Int8.ofInt 48).toInt32 = nI 48 := by decide +kernel
theorem k_bipush_57 : (Int8.ofInt 57).toInt32 = nI 57 := by decide +kernel
theorem k_bipush_59 : (Int8.ofInt 59).toInt32 = nI 59 := by decide +kernel
theorem k_bipush_60 : (Int8.ofInt 60).toInt32 = nI 60 := by decide +kernel
theorem k_bipush_65 : (Int8.ofInt 65).toInt32 = nI 65 := by decide +kernel
theorem k_bipush_97 : (Int8.ofInt 97).toInt32 = nI 97 := by decide +kernel
theorem k_bipush_98 : (Int8.ofInt 98).toInt32 = nI 98 := by decide +kernel
theorem k_bipush_99 : (Int8.ofInt 99).toInt32 = nI 99 := by decide +kernel
theorem k_bipush_100 : (Int8.ofInt 100).toInt32 = nI 100 := by decide +kernel
theorem k_bipush_101 : (Int8.ofInt 101).toInt32 = nI 101 := by decide +kernel
theorem k_bipush_104 : (Int8.ofInt 104).toInt32 = nI 104 := by decide +kernel
theorem k_bipush_105 : (Int8.ofInt 105).toInt32 = nI 105 := by decide +kernel
theorem k_bipush_109 : (Int8.ofInt 109).toInt32 = nI 109 := by decide +kernel
theorem k_bipush_110 : (Int8.ofInt 110).toInt32 = nI 110 := by decide +kernel
theorem k_bipush_111 : (Int8.ofInt 111).toInt32 = nI 111 := by decide +kernel
theorem k_bipush_112 : (Int8.ofInt 112).toInt32 = nI 112 := by decide +kernel
theorem k_bipush_114 : (Int8.ofInt 114).toInt32 = nI 114 := by decide +kernel
theorem k_bipush_115 : (Int8.ofInt 115).toInt32 = nI 115 := by decide +kernel
theorem k_bipush_116 : (Int8.ofInt 116).toInt32 = nI 116 := by decide +kernel
theorem k_bipush_121 : (Int8.ofInt 121).toInt32 = nI 121 := by decide +kernel
theorem k_bipush_126 : (Int8.ofInt 126).toInt32 = nI 126 := by decide +kernel
theorem k_sipush_200 : (Int16.ofInt 200).toInt32 = nI 200 := by decide +kernel
theorem k_sipush_255 : (Int16.ofInt 255).toInt32 = nI 255 := by decide +kernel
theorem k_sipush_325 : (Int16.ofInt 325).toInt32 = nI 325 := by decide +kernel
theorem k_sipush_390 : (Int16.ofInt 390).toInt32 = nI 390 := by decide +kernel
theorem k_sipush_784 : (Int16.ofInt 784).toInt32 = nI 784 := by decide +kernel
theorem k_sipush_1000 : (Int16.ofInt 1000).toInt32 = nI 1000 := by decide +kernel
end
section
/-! pure words: numbers, counts, sets, the rows of the reference -/
def inB (v a b : Int32) : Bool := !decide (v < a) && !decide (b < v)
/-- a place below n -/
def hasB (x n : Int32) : Bool := !decide (x < 0) && !decide (n ≤ x)
theorem hasB_nI {j n : Nat} (hj : j < 2 ^ 31) (hn : n < 2 ^ 31) : hasB (nI j) (nI n) = decide (j < n) := by
  unfold hasB
  rw [decide_eq_false (nI_pos hj)]
  by_cases h : j < n
  · rw [decide_eq_false (fun e => absurd ((nI_leI hn hj).mp e) (by omega)), decide_eq_true h]; rfl
  · rw [decide_eq_true ((nI_leI hn hj).mpr (by omega)), decide_eq_false h]; rfl
theorem hasB_ix {x : Int32} {n : Nat} (hn : n < 2 ^ 31) (h : hasB x (nI n) = true) : ∃ j, j < n ∧ x = nI j := by
  unfold hasB at h
  rcases pk_ix x hn with h1 | h1 | h1
  · simp [h1] at h
  · simp [h1] at h
  · exact h1
theorem inB_has {x : Int32} {n : Nat} (hn : n < 2 ^ 30) : inB x (nI 0) (nI n - nI 1) = hasB x (nI n) := by
  have h0 : nI 0 = 0 := nI_0
  unfold inB hasB
  rw [h0]
  rcases Nat.eq_zero_or_pos n with e | e
  · subst e
    by_cases hx : x < 0
    · simp [hx]
    · have h1 : (nI 0 - nI 1) < x := by
        have : nI 0 - nI 1 < 0 := by decide
        exact Int32.lt_of_lt_of_le this (Int32.not_lt.mp hx)
      have h2 : nI 0 ≤ x := by rw [h0]; exact Int32.not_lt.mp hx
      simp [hx, h1, h2]
  · rw [pk_sub e]
    by_cases hx : x < 0
    · simp [hx]
    · obtain ⟨j, hj, rfl⟩ := nI_of hx
      by_cases h : j < n
      · have h1 : ¬ nI (n - 1) < nI j := fun q => absurd ((nI_ltI (by omega) hj).mp q) (by omega)
        have h2 : ¬ nI n ≤ nI j := fun q => absurd ((nI_leI (by omega) hj).mp q) (by omega)
        simp [h1, h2]
      · have h1 : nI (n - 1) < nI j := (nI_ltI (by omega) hj).mpr (by omega)
        have h2 : nI n ≤ nI j := (nI_leI (by omega) hj).mpr (by omega)
        simp [h1, h2]
def sumF (p : Nat → Bool) : Nat → Nat
  | 0 => 0
  | n + 1 => sumF p n + (if p n then 1 else 0)
theorem sumF_le (p : Nat → Bool) : ∀ n, sumF p n ≤ n
  | 0 => Nat.le_refl _
  | n + 1 => by
    have := sumF_le p n
    simp only [sumF]
    split <;> omega
theorem sumF_congr {p q : Nat → Bool} : ∀ {n : Nat}, (∀ i, i < n → p i = q i) → sumF p n = sumF q n
  | 0, _ => rfl
  | n + 1, h => by simp only [sumF]; rw [sumF_congr (fun i hi => h i (by omega)), h n (by omega)]
def orF (f : Nat → Int32) : Nat → Int32
  | 0 => nI 0
  | n + 1 => orF f n ||| f n
theorem orF_congr {f g : Nat → Int32} : ∀ {n : Nat}, (∀ i, i < n → f i = g i) → orF f n = orF g n
  | 0, _ => rfl
  | n + 1, h => by simp only [orF]; rw [orF_congr (fun i hi => h i (by omega)), h n (by omega)]
theorem or_0 (x : Int32) : x ||| nI 0 = x := by rw [nI_0]; exact Int32.or_zero
/-- the first place below n -/
def fstF (p : Nat → Bool) : Nat → Option Nat
  | 0 => none
  | n + 1 => match fstF p n with
    | some j => some j
    | none => if p n then some n else none
def oI (o : Option Nat) : Int32 := match o with
  | some j => nI j
  | none => -4
theorem fstF_at {p : Nat → Bool} {k : Nat} (h0 : fstF p k = none) (hp : p k = true) : ∀ n, k < n → fstF p n = some k
  | 0, h => by omega
  | n + 1, h => by
    by_cases e : k = n
    · subst e
      simp only [fstF, h0, hp, if_true]
    · simp only [fstF, fstF_at h0 hp n (by omega)]
theorem fstF_congr {p q : Nat → Bool} : ∀ {n : Nat}, (∀ i, i < n → p i = q i) → fstF p n = fstF q n
  | 0, _ => rfl
  | n + 1, h => by simp only [fstF]; rw [fstF_congr (fun i hi => h i (by omega)), h n (by omega)]
theorem fstF_lt {p : Nat → Bool} : ∀ {n j : Nat}, fstF p n = some j → j < n ∧ p j = true
  | 0, j, h => by cases h
  | n + 1, j, h => by
    simp only [fstF] at h
    cases e : fstF p n with
    | some i =>
      rw [e] at h
      cases h
      have := fstF_lt e
      exact ⟨by omega, this.2⟩
    | none =>
      rw [e] at h
      simp only at h
      split at h
      · cases h; exact ⟨by omega, by assumption⟩
      · cases h
theorem m4_ne {n : Nat} (h : n < 2 ^ 31) : ¬ nI n = -4 := fun e => absurd (show (-4 : Int32) < 0 by decide) (by rw [← e]; exact nI_pos h)
theorem m4_ne' {n : Nat} (h : n < 2 ^ 31) : ¬ (-4 : Int32) = nI n := fun e => m4_ne h e.symm
theorem oI_none {o : Option Nat} (h : ∀ j, o = some j → j < 2 ^ 31) : oI o = -4 ↔ o = none := by
  cases o with
  | none => exact ⟨fun _ => rfl, fun _ => rfl⟩
  | some j => exact ⟨fun e => absurd e (m4_ne (h j rfl)), fun e => by cases e⟩
/-! a row w: 0 lines, 1 tracks, 2 trains, 3 gap, 4 to 15 routes, 16 + 7 i + k the trains -/
def pf_in (w : Nat → Int32) (i t : Nat) : Int32 := w (4 + 4 * tN (w (16 + 7 * i + 0)) + t)
def pf_out (w : Nat → Int32) (i t : Nat) : Int32 := w (4 + 4 * tN (w (16 + 7 * i + 1)) + t)
def pf_fit (w : Nat → Int32) (i t : Nat) : Bool := !decide (pf_in w i t = -4) && !decide (pf_out w i t = -4)
def pf_gap (w : Nat → Int32) : Int32 := if nI 1 ≤ w 3 then w 3 else nI 1
def pf_apart (w : Nat → Int32) (i j : Nat) : Bool := decide (w (16 + 7 * i + 3) + pf_gap w ≤ w (16 + 7 * j + 2)) || decide (w (16 + 7 * j + 3) + pf_gap w ≤ w (16 + 7 * i + 2))
def pf_meet (a b : Int32) : Bool := !decide (nI 2 ≤ a - b) && !decide (nI 2 ≤ b - a)
def pf_sw (w : Nat → Int32) (i t j o : Nat) : Bool :=
  (((pf_meet (w (16 + 7 * i + 2) - nI 1) (w (16 + 7 * j + 2) - nI 1) && !decide (pf_in w i t &&& pf_in w j o = 0)) ||
    (pf_meet (w (16 + 7 * i + 2) - nI 1) (w (16 + 7 * j + 3)) && !decide (pf_in w i t &&& pf_out w j o = 0))) ||
    (pf_meet (w (16 + 7 * i + 3)) (w (16 + 7 * j + 2) - nI 1) && !decide (pf_out w i t &&& pf_in w j o = 0))) ||
    (pf_meet (w (16 + 7 * i + 3)) (w (16 + 7 * j + 3)) && !decide (pf_out w i t &&& pf_out w j o = 0))
def pf_mates (w : Nat → Int32) (i j : Nat) : Bool := decide (w (16 + 7 * i + 5) = nI j)
def pf_kind (w : Nat → Int32) (i t j o : Nat) : Nat := if t = o ∧ pf_mates w i j = true then 0 else (if t = o ∧ pf_apart w i j = false then 1 else 0) + (if pf_sw w i t j o = true then 2 else 0)
def pf_against (w : Nat → Int32) (i t j : Nat) : Bool := !decide (j = i) && (!decide (w (16 + 7 * j + 6) = -4) && decide (0 < pf_kind w i t j (tN (w (16 + 7 * j + 6)))))
def pf_clashing (w : Nat → Int32) (i t : Nat) : Option Nat := fstF (pf_against w i t) (tN (w 2))
def pf_why (w : Nat → Int32) (i t : Nat) : Nat := if pf_in w i t = -4 then 1 else if pf_out w i t = -4 then 2 else match pf_clashing w i t with
  | none => 0
  | some j => 3 + j
def pf_fits (w : Nat → Int32) (i : Nat) : Int32 := orF (fun t => if pf_fit w i t then nI 1 <<< (nI t &&& 31) else nI 0) (tN (w 1))
def pf_hard (w : Nat → Int32) (i : Nat) : Nat := sumF (fun t => decide (pf_why w i t = 0)) (tN (w 1))
def pf_placed (w : Nat → Int32) : Nat := sumF (fun i => !decide (w (16 + 7 * i + 6) = -4)) (tN (w 2))
def pf_wished (w : Nat → Int32) : Nat := sumF (fun i => !decide (w (16 + 7 * i + 6) = -4) && decide (w (16 + 7 * i + 6) = w (16 + 7 * i + 4))) (tN (w 2))
def pf_on (w : Nat → Int32) (t m : Int32) : Int32 := orF (fun i => if decide (w (16 + 7 * i + 6) = t) && inB m (w (16 + 7 * i + 2)) (w (16 + 7 * i + 3)) then nI 1 <<< (nI i &&& 31) else nI 0) (tN (w 2))
def pf_takenI (w : Nat → Int32) (m : Int32) (i : Nat) : Int32 := if w (16 + 7 * i + 6) = -4 then nI 0 else
  (if inB m (w (16 + 7 * i + 2) - nI 1) (w (16 + 7 * i + 2)) then pf_in w i (tN (w (16 + 7 * i + 6))) else nI 0) ||| (if inB m (w (16 + 7 * i + 3)) (w (16 + 7 * i + 3) + nI 1) then pf_out w i (tN (w (16 + 7 * i + 6))) else nI 0)
def pf_taken (w : Nat → Int32) (m : Int32) : Int32 := orF (pf_takenI w m) (tN (w 2))
def pf_useB (w : Nat → Int32) (what k : Int32) (m : Nat) : Bool := if what = 0 then !decide (pf_on w k (nI m) = 0) else decide ((pf_taken w (nI m) >>> (k &&& 31)) &&& nI 1 = nI 1)
def pf_use (w : Nat → Int32) (what k : Int32) : Nat := sumF (pf_useB w what k) 100
/-- what holds of a row -/
def Wt (w : Nat → Int32) (ln T N i : Nat) : Prop := (∃ a, a < ln ∧ w (16 + 7 * i + 0) = nI a) ∧ (∃ b, b < ln ∧ w (16 + 7 * i + 1) = nI b) ∧ (∃ p q, 1 ≤ p ∧ p ≤ q ∧ q ≤ 98 ∧ w (16 + 7 * i + 2) = nI p ∧ w (16 + 7 * i + 3) = nI q) ∧
  (w (16 + 7 * i + 4) = -4 ∨ ∃ t, t < T ∧ w (16 + 7 * i + 4) = nI t) ∧ (w (16 + 7 * i + 5) = -4 ∨ ∃ j, j < N ∧ w (16 + 7 * i + 5) = nI j) ∧ (w (16 + 7 * i + 6) = -4 ∨ ∃ t, t < T ∧ w (16 + 7 * i + 6) = nI t ∧ pf_fit w i t = true)
def Wf (w : Nat → Int32) (ln T N : Nat) : Prop := (w 0 = nI ln ∧ 1 ≤ ln ∧ ln ≤ 3) ∧ (w 1 = nI T ∧ 1 ≤ T ∧ T ≤ 4) ∧ (w 2 = nI N ∧ N ≤ 7) ∧ (∃ g, w 3 = nI g ∧ g ≤ 9) ∧ ∀ i, i < N → Wt w ln T N i
end
section
/-! the reference: small methods -/
theorem R_m_in (l : lt_L) (d : Nat) (sh : lt_H) (σ : lt_S) (v a b : Int32) : lt_T l (d + 1) mX8_in sh σ [.int v, .int a, .int b] (some (bI (inB v a b))) σ := by
  refine lt_T.of [some (.int v), some (.int a), some (.int b)] rfl rfl (Nat.le_of_ble_eq_true rfl) ?_
  refine g_il0 (pc2 := 1) dX8_in_0 rfl ?_
  refine g_il1 (pc2 := 2) dX8_in_1 rfl ?_
  refine g_icmp_lt 14 5 dX8_in_2 rfl rfl (fun h2 => ?_) (fun h2 => ?_)
  · refine g_iconst (pc2 := 15) dX8_in_14 k_iconst_0 rfl ?_
    exact g_zretT dX8_in_15 rfl (Nat.le_refl _) (Nat.le_refl _) (by simp [inB, bI, nI, *]) (rfl)
  · refine g_il0 (pc2 := 6) dX8_in_5 rfl ?_
    refine g_il2 (pc2 := 7) dX8_in_6 rfl ?_
    refine g_icmp_gt 14 10 dX8_in_7 rfl rfl (fun h7 => ?_) (fun h7 => ?_)
    · refine g_iconst (pc2 := 15) dX8_in_14 k_iconst_0 rfl ?_
      exact g_zretT dX8_in_15 rfl (Nat.le_refl _) (Nat.le_refl _) (by simp [inB, bI, nI, *]) (rfl)
    · refine g_iconst (pc2 := 11) dX8_in_10 k_iconst_1 rfl ?_
      refine g_goto 15 dX8_in_11 rfl ?_
      exact g_zretT dX8_in_15 rfl (Nat.le_refl _) (Nat.le_refl _) (by simp [inB, bI, nI, *]) (rfl)
theorem R_m_meet (l : lt_L) (d : Nat) (sh : lt_H) (σ : lt_S) (a b : Int32) : lt_T l (d + 1) mX8_meet sh σ [.int a, .int b] (some (bI (pf_meet a b))) σ := by
  refine lt_T.of [some (.int a), some (.int b)] rfl rfl (Nat.le_of_ble_eq_true rfl) ?_
  refine g_il0 (pc2 := 1) dX8_meet_0 rfl ?_
  refine g_il1 (pc2 := 2) dX8_meet_1 rfl ?_
  refine g_isub (pc2 := 3) dX8_meet_2 rfl ?_
  refine g_iconst (pc2 := 4) dX8_meet_3 k_iconst_2 rfl ?_
  refine g_icmp_ge 18 7 dX8_meet_4 rfl rfl (fun h4 => ?_) (fun h4 => ?_)
  · refine g_iconst (pc2 := 19) dX8_meet_18 k_iconst_0 rfl ?_
    exact g_zretT dX8_meet_19 rfl (Nat.le_refl _) (Nat.le_refl _) (by simp [pf_meet, bI, *]) (rfl)
  · refine g_il1 (pc2 := 8) dX8_meet_7 rfl ?_
    refine g_il0 (pc2 := 9) dX8_meet_8 rfl ?_
    refine g_isub (pc2 := 10) dX8_meet_9 rfl ?_
    refine g_iconst (pc2 := 11) dX8_meet_10 k_iconst_2 rfl ?_
    refine g_icmp_ge 18 14 dX8_meet_11 rfl rfl (fun h11 => ?_) (fun h11 => ?_)
    · refine g_iconst (pc2 := 19) dX8_meet_18 k_iconst_0 rfl ?_
      exact g_zretT dX8_meet_19 rfl (Nat.le_refl _) (Nat.le_refl _) (by simp [pf_meet, bI, *]) (rfl)
    · refine g_iconst (pc2 := 15) dX8_meet_14 k_iconst_1 rfl ?_
      refine g_goto 19 dX8_meet_15 rfl ?_
      exact g_zretT dX8_meet_19 rfl (Nat.le_refl _) (Nat.le_refl _) (by simp [pf_meet, bI, *]) (rfl)
theorem R_m_of (l : lt_L) (d : Nat) (σ : lt_S) (i k : Nat) (hi : i < 7) (hk : k < 7) : lt_T l (d + 1) mX8_of lt_SA σ [.ref 76, .int (nI i), .int (nI k)] (some (σ 77 (16 + 7 * i + k))) σ := by
  refine lt_T.of [some (.ref 76), some (.int (nI i)), some (.int (nI k))] rfl rfl (Nat.le_of_ble_eq_true rfl) ?_
  refine g_al0 (pc2 := 1) dX8_of_0 rfl ?_
  refine g_getr (pc2 := 4) (by rfl) (by rfl) flX8_7 dX8_of_1 rfl ?_
  refine g_bipush (pc2 := 6) dX8_of_4 k_bipush_16 rfl ?_
  refine g_bipush (pc2 := 8) dX8_of_6 k_bipush_7 rfl ?_
  refine g_il1 (pc2 := 9) dX8_of_8 rfl ?_
  refine g_imulN (pc2 := 10) dX8_of_9 rfl ?_
  refine g_iaddN (pc2 := 11) dX8_of_10 rfl ?_
  refine g_il2 (pc2 := 12) dX8_of_11 rfl ?_
  refine g_iaddN (pc2 := 13) dX8_of_12 rfl ?_
  refine g_iald (pc2 := 14) (by rfl) (by omega) (by decide) dX8_of_13 rfl ?_
  exact g_iretT dX8_of_14 rfl (Nat.le_refl _) (Nat.le_refl _) (rfl) (rfl)
theorem R_m_routeOf (l : lt_L) (d : Nat) (σ : lt_S) (i k : Nat) (hi : i < 3) (hk : k < 4) : lt_T l (d + 1) mX8_routeOf lt_SA σ [.ref 76, .int (nI i), .int (nI k)] (some (σ 77 (4 + 4 * i + k))) σ := by
  refine lt_T.of [some (.ref 76), some (.int (nI i)), some (.int (nI k))] rfl rfl (Nat.le_of_ble_eq_true rfl) ?_
  refine g_al0 (pc2 := 1) dX8_routeOf_0 rfl ?_
  refine g_getr (pc2 := 4) (by rfl) (by rfl) flX8_7 dX8_routeOf_1 rfl ?_
  refine g_iconst (pc2 := 5) dX8_routeOf_4 k_iconst_4 rfl ?_
  refine g_iconst (pc2 := 6) dX8_routeOf_5 k_iconst_4 rfl ?_
  refine g_il1 (pc2 := 7) dX8_routeOf_6 rfl ?_
  refine g_imulN (pc2 := 8) dX8_routeOf_7 rfl ?_
  refine g_iaddN (pc2 := 9) dX8_routeOf_8 rfl ?_
  refine g_il2 (pc2 := 10) dX8_routeOf_9 rfl ?_
  refine g_iaddN (pc2 := 11) dX8_routeOf_10 rfl ?_
  refine g_iald (pc2 := 12) (by rfl) (by omega) (by decide) dX8_routeOf_11 rfl ?_
  exact g_iretT dX8_routeOf_12 rfl (Nat.le_refl _) (Nat.le_refl _) (rfl) (rfl)
theorem R_m_becomes (l : lt_L) (d : Nat) (σ : lt_S) (i k : Nat) (v : Int32) (hi : i < 7) (hk : k < 7) : lt_T l (d + 1) mX8_becomes lt_SA σ [.ref 76, .int (nI i), .int (nI k), .int v] none (lt_up σ 77 (16 + 7 * i + k) v) := by
  refine lt_T.of [some (.ref 76), some (.int (nI i)), some (.int (nI k)), some (.int v)] rfl rfl (Nat.le_of_ble_eq_true rfl) ?_
  refine g_al0 (pc2 := 1) dX8_becomes_0 rfl ?_
  refine g_getr (pc2 := 4) (by rfl) (by rfl) flX8_7 dX8_becomes_1 rfl ?_
  refine g_bipush (pc2 := 6) dX8_becomes_4 k_bipush_16 rfl ?_
  refine g_bipush (pc2 := 8) dX8_becomes_6 k_bipush_7 rfl ?_
  refine g_il1 (pc2 := 9) dX8_becomes_8 rfl ?_
  refine g_imulN (pc2 := 10) dX8_becomes_9 rfl ?_
  refine g_iaddN (pc2 := 11) dX8_becomes_10 rfl ?_
  refine g_il2 (pc2 := 12) dX8_becomes_11 rfl ?_
  refine g_iaddN (pc2 := 13) dX8_becomes_12 rfl ?_
  refine g_il3 (pc2 := 14) dX8_becomes_13 rfl ?_
  refine g_iast (pc2 := 15) (by rfl) (by omega) (by decide) dX8_becomes_14 rfl ?_
  exact g_retT dX8_becomes_15 rfl (Nat.le_refl _) (Nat.le_refl _) (rfl)
theorem R_m_isTrack (l : lt_L) (d : Nat) (σ : lt_S) (t : Int32) {n : Nat} (h : σ 77 1 = nI n) (hn : n < 2 ^ 30) : lt_T l (d + 2) mX8_isTrack lt_SA σ [.ref 76, .int t] (some (bI (hasB t (σ 77 1)))) σ := by
  refine lt_T.of [some (.ref 76), some (.int t)] rfl rfl (Nat.le_of_ble_eq_true rfl) ?_
  refine g_il1 (pc2 := 1) dX8_isTrack_0 rfl ?_
  refine g_iconst (pc2 := 2) dX8_isTrack_1 k_iconst_0 rfl ?_
  refine g_al0 (pc2 := 3) dX8_isTrack_2 rfl ?_
  refine g_getr (pc2 := 6) (by rfl) (by rfl) flX8_7 dX8_isTrack_3 rfl ?_
  refine g_iconst (pc2 := 7) dX8_isTrack_6 k_iconst_1 rfl ?_
  refine g_iald (pc2 := 8) (by rfl) (by omega) (by decide) dX8_isTrack_7 rfl ?_
  refine g_iconst (pc2 := 9) dX8_isTrack_8 k_iconst_1 rfl ?_
  refine g_isub (pc2 := 10) dX8_isTrack_9 rfl ?_
  refine g_cSi (pc2 := 13) (R_m_in l d _ _ _ _ _) meX8_in mlX8_58 rfl rfl (by simp) ⟨Nat.le_refl _, Nat.le_refl _⟩ dX8_isTrack_10 rfl ?_
  exact g_zretT dX8_isTrack_13 rfl (Nat.le_refl _) (Nat.le_refl _) (by rw [h, inB_has hn]) (rfl)
theorem R_m_isTrain (l : lt_L) (d : Nat) (σ : lt_S) (t : Int32) {n : Nat} (h : σ 77 2 = nI n) (hn : n < 2 ^ 30) : lt_T l (d + 2) mX8_isTrain lt_SA σ [.ref 76, .int t] (some (bI (hasB t (σ 77 2)))) σ := by
  refine lt_T.of [some (.ref 76), some (.int t)] rfl rfl (Nat.le_of_ble_eq_true rfl) ?_
  refine g_il1 (pc2 := 1) dX8_isTrain_0 rfl ?_
  refine g_iconst (pc2 := 2) dX8_isTrain_1 k_iconst_0 rfl ?_
  refine g_al0 (pc2 := 3) dX8_isTrain_2 rfl ?_
  refine g_getr (pc2 := 6) (by rfl) (by rfl) flX8_7 dX8_isTrain_3 rfl ?_
  refine g_iconst (pc2 := 7) dX8_isTrain_6 k_iconst_2 rfl ?_
  refine g_iald (pc2 := 8) (by rfl) (by omega) (by decide) dX8_isTrain_7 rfl ?_
  refine g_iconst (pc2 := 9) dX8_isTrain_8 k_iconst_1 rfl ?_
  refine g_isub (pc2 := 10) dX8_isTrain_9 rfl ?_
  refine g_cSi (pc2 := 13) (R_m_in l d _ _ _ _ _) meX8_in mlX8_58 rfl rfl (by simp) ⟨Nat.le_refl _, Nat.le_refl _⟩ dX8_isTrain_10 rfl ?_
  exact g_zretT dX8_isTrain_13 rfl (Nat.le_refl _) (Nat.le_refl _) (by rw [h, inB_has hn]) (rfl)
theorem R_m_wayIn (l : lt_L) (d : Nat) (σ : lt_S) (i t : Nat) (hi : i < 7) (ht : t < 4) {ln : Nat} (hl : σ 77 (16 + 7 * i + 0) = nI ln) (hln : ln < 3) : lt_T l (d + 2) mX8_wayIn lt_SA σ [.ref 76, .int (nI i), .int (nI t)] (some (pf_in (σ 77) i t)) σ := by
  refine lt_T.of [some (.ref 76), some (.int (nI i)), some (.int (nI t))] rfl rfl (Nat.le_of_ble_eq_true rfl) ?_
  refine g_al0 (pc2 := 1) dX8_wayIn_0 rfl ?_
  refine g_al0 (pc2 := 2) dX8_wayIn_1 rfl ?_
  refine g_il1 (pc2 := 3) dX8_wayIn_2 rfl ?_
  refine g_iconst (pc2 := 4) dX8_wayIn_3 k_iconst_0 rfl ?_
  refine g_cVi (pc2 := 7) (R_m_of l d _ _ _ hi (by decide)) meX8_of mlX8_110 (by rfl) ⟨_, rfl, rfl⟩ rfl rfl (by simp) ⟨Nat.le_refl _, Nat.le_refl _⟩ dX8_wayIn_4 rfl ?_
  rw [hl]
  refine g_il2 (pc2 := 8) dX8_wayIn_7 rfl ?_
  refine g_cVi (pc2 := 11) (R_m_routeOf l d _ _ _ hln ht) meX8_routeOf mlX8_106 (by rfl) ⟨_, rfl, rfl⟩ rfl rfl (by simp) ⟨Nat.le_refl _, Nat.le_refl _⟩ dX8_wayIn_8 rfl ?_
  exact g_iretT dX8_wayIn_11 rfl (Nat.le_refl _) (Nat.le_refl _) (by unfold pf_in; rw [hl, tN_nI (by omega)]) (rfl)
theorem R_m_wayOut (l : lt_L) (d : Nat) (σ : lt_S) (i t : Nat) (hi : i < 7) (ht : t < 4) {ln : Nat} (hl : σ 77 (16 + 7 * i + 1) = nI ln) (hln : ln < 3) : lt_T l (d + 2) mX8_wayOut lt_SA σ [.ref 76, .int (nI i), .int (nI t)] (some (pf_out (σ 77) i t)) σ := by
  refine lt_T.of [some (.ref 76), some (.int (nI i)), some (.int (nI t))] rfl rfl (Nat.le_of_ble_eq_true rfl) ?_
  refine g_al0 (pc2 := 1) dX8_wayOut_0 rfl ?_
  refine g_al0 (pc2 := 2) dX8_wayOut_1 rfl ?_
  refine g_il1 (pc2 := 3) dX8_wayOut_2 rfl ?_
  refine g_iconst (pc2 := 4) dX8_wayOut_3 k_iconst_1 rfl ?_
  refine g_cVi (pc2 := 7) (R_m_of l d _ _ _ hi (by decide)) meX8_of mlX8_110 (by rfl) ⟨_, rfl, rfl⟩ rfl rfl (by simp) ⟨Nat.le_refl _, Nat.le_refl _⟩ dX8_wayOut_4 rfl ?_
  rw [hl]
  refine g_il2 (pc2 := 8) dX8_wayOut_7 rfl ?_
  refine g_cVi (pc2 := 11) (R_m_routeOf l d _ _ _ hln ht) meX8_routeOf mlX8_106 (by rfl) ⟨_, rfl, rfl⟩ rfl rfl (by simp) ⟨Nat.le_refl _, Nat.le_refl _⟩ dX8_wayOut_8 rfl ?_
  exact g_iretT dX8_wayOut_11 rfl (Nat.le_refl _) (Nat.le_refl _) (by unfold pf_out; rw [hl, tN_nI (by omega)]) (rfl)
/-- what the small methods need of a train -/
def Ln (w : Nat → Int32) (i : Nat) : Prop := i < 7 ∧ (∃ a, a < 3 ∧ w (16 + 7 * i + 0) = nI a) ∧ (∃ b, b < 3 ∧ w (16 + 7 * i + 1) = nI b)
theorem Wf.ln {w : Nat → Int32} {ln T N i : Nat} (h : Wf w ln T N) (hi : i < N) : Ln w i := by
  obtain ⟨⟨a, ha, e1⟩, ⟨b, hb, e2⟩, -⟩ := h.2.2.2.2 i hi
  have := h.1.2.2
  have := h.2.2.1.2
  exact ⟨by omega, ⟨a, by omega, e1⟩, ⟨b, by omega, e2⟩⟩
theorem R_m_in' (l : lt_L) (d : Nat) (σ : lt_S) (i t : Nat) (h : Ln (σ 77) i) (ht : t < 4) : lt_T l (d + 2) mX8_wayIn lt_SA σ [.ref 76, .int (nI i), .int (nI t)] (some (pf_in (σ 77) i t)) σ := by
  obtain ⟨hi, ⟨a, ha, e1⟩, -⟩ := h
  exact R_m_wayIn l d σ i t hi ht e1 ha
theorem R_m_out' (l : lt_L) (d : Nat) (σ : lt_S) (i t : Nat) (h : Ln (σ 77) i) (ht : t < 4) : lt_T l (d + 2) mX8_wayOut lt_SA σ [.ref 76, .int (nI i), .int (nI t)] (some (pf_out (σ 77) i t)) σ := by
  obtain ⟨hi, -, ⟨a, ha, e1⟩⟩ := h
  exact R_m_wayOut l d σ i t hi ht e1 ha
theorem R_m_doesFit (l : lt_L) (d : Nat) (σ : lt_S) (i t : Nat) (h : Ln (σ 77) i) (ht : t < 4) : lt_T l (d + 3) mX8_doesFit lt_SA σ [.ref 76, .int (nI i), .int (nI t)] (some (bI (pf_fit (σ 77) i t))) σ := by
  refine lt_T.of [some (.ref 76), some (.int (nI i)), some (.int (nI t))] rfl rfl (Nat.le_of_ble_eq_true rfl) ?_
  refine g_al0 (pc2 := 1) dX8_doesFit_0 rfl ?_
  refine g_il1 (pc2 := 2) dX8_doesFit_1 rfl ?_
  refine g_il2 (pc2 := 3) dX8_doesFit_2 rfl ?_
  refine g_cVi (pc2 := 6) (R_m_in' l d _ _ _ h ht) meX8_wayIn mlX8_113 (by rfl) ⟨_, rfl, rfl⟩ rfl rfl (by simp) ⟨Nat.le_refl _, Nat.le_refl _⟩ dX8_doesFit_3 rfl ?_
  refine g_bipush (pc2 := 8) dX8_doesFit_6 k_bipush_m4 rfl ?_
  refine g_icmp_eq 26 11 dX8_doesFit_8 rfl rfl (fun h8 => ?_) (fun h8 => ?_)
  · refine g_iconst (pc2 := 27) dX8_doesFit_26 k_iconst_0 rfl ?_
    exact g_zretT dX8_doesFit_27 rfl (Nat.le_refl _) (Nat.le_refl _) (by simp [pf_fit, bI, *]) (rfl)
  · refine g_al0 (pc2 := 12) dX8_doesFit_11 rfl ?_
    refine g_il1 (pc2 := 13) dX8_doesFit_12 rfl ?_
    refine g_il2 (pc2 := 14) dX8_doesFit_13 rfl ?_
    refine g_cVi (pc2 := 17) (R_m_out' l d _ _ _ h ht) meX8_wayOut mlX8_116 (by rfl) ⟨_, rfl, rfl⟩ rfl rfl (by simp) ⟨Nat.le_refl _, Nat.le_refl _⟩ dX8_doesFit_14 rfl ?_
    refine g_bipush (pc2 := 19) dX8_doesFit_17 k_bipush_m4 rfl ?_
    refine g_icmp_eq 26 22 dX8_doesFit_19 rfl rfl (fun h19 => ?_) (fun h19 => ?_)
    · refine g_iconst (pc2 := 27) dX8_doesFit_26 k_iconst_0 rfl ?_
      exact g_zretT dX8_doesFit_27 rfl (Nat.le_refl _) (Nat.le_refl _) (by simp [pf_fit, bI, *]) (rfl)
    · refine g_iconst (pc2 := 23) dX8_doesFit_22 k_iconst_1 rfl ?_
      refine g_goto 27 dX8_doesFit_23 rfl ?_
      exact g_zretT dX8_doesFit_27 rfl (Nat.le_refl _) (Nat.le_refl _) (by simp [pf_fit, bI, *]) (rfl)
end
section
/-! the reference: clashes, and what is only read -/
theorem R_m_clashOf (l : lt_L) (d : Nat) (σ : lt_S) (i t j o : Nat) (hi : Ln (σ 77) i) (ht : t < 4) (hj : Ln (σ 77) j) (ho : o < 4) : lt_T l (d + 3) mX8_clashOf lt_SA σ [.ref 76, .int (nI i), .int (nI t), .int (nI j), .int (nI o)] (some (nI (pf_kind (σ 77) i t j o))) σ := by
  refine lt_T.of [some (.ref 76), some (.int (nI i)), some (.int (nI t)), some (.int (nI j)), some (.int (nI o)), none, none, none, none, none, none, none] rfl rfl (Nat.le_of_ble_eq_true rfl) ?_
  generalize hr : some (nI (pf_kind (σ 77) i t j o)) = r
  have hi7 := hi.1
  have hj7 := hj.1
  have key : ¬ (t = o ∧ pf_mates (σ 77) i j = true) → lt_g l (d + 3) mX8_clashOf lt_SA σ 18 [some (.ref 76), some (.int (nI i)), some (.int (nI t)), some (.int (nI j)), some (.int (nI o)), none, none, none, none, none, none, none] [] r σ := by
    intro hm
    have J4 : ∀ (x : Int32) (b : Bool), x = bI b → b = pf_sw (σ 77) i t j o → lt_g l (d + 3) mX8_clashOf lt_SA σ 270 [some (.ref 76), some (.int (nI i)), some (.int (nI t)), some (.int (nI j)), some (.int (nI o)), some (.int (pf_gap (σ 77))), some (.int (bI (pf_apart (σ 77) i j))), some (.int (σ 77 (16 + 7 * i + 2) - nI 1)), some (.int (σ 77 (16 + 7 * i + 3))), some (.int (σ 77 (16 + 7 * j + 2) - nI 1)), some (.int (σ 77 (16 + 7 * j + 3))), some (.int x)] [] r σ := by
      intro x b hx hb
      subst hx
      rw [← hr]
      refine g_il2 (pc2 := 271) dX8_clashOf_270 rfl ?_
      refine g_il4 (pc2 := 273) dX8_clashOf_271 rfl ?_
      refine g_icmpN_ne 285 276 dX8_clashOf_273 rfl rfl (by omega) (by omega) (fun h273 => ?_) (fun h273 => ?_)
      · refine g_iconst (pc2 := 286) dX8_clashOf_285 k_iconst_0 rfl ?_
        refine g_il11 (pc2 := 288) dX8_clashOf_286 rfl ?_
        refine g_if_eqB 295 291 dX8_clashOf_288 rfl rfl (fun h288 => ?_) (fun h288 => ?_)
        · refine g_iconst (pc2 := 296) dX8_clashOf_295 k_iconst_0 rfl ?_
          refine g_iaddN (pc2 := 297) dX8_clashOf_296 rfl ?_
          exact g_iretT dX8_clashOf_297 rfl (Nat.le_refl _) (Nat.le_refl _) (by simp only [pf_kind, if_neg hm, ← hb, h288]; clear hb; simp [*]) (rfl)
        · refine g_iconst (pc2 := 292) dX8_clashOf_291 k_iconst_2 rfl ?_
          refine g_goto 296 dX8_clashOf_292 rfl ?_
          refine g_iaddN (pc2 := 297) dX8_clashOf_296 rfl ?_
          exact g_iretT dX8_clashOf_297 rfl (Nat.le_refl _) (Nat.le_refl _) (by simp only [pf_kind, if_neg hm, ← hb, h288]; clear hb; simp [*]) (rfl)
      · refine g_il6 (pc2 := 278) dX8_clashOf_276 rfl ?_
        refine g_if_neB 285 281 dX8_clashOf_278 rfl rfl (fun h278 => ?_) (fun h278 => ?_)
        · refine g_iconst (pc2 := 286) dX8_clashOf_285 k_iconst_0 rfl ?_
          refine g_il11 (pc2 := 288) dX8_clashOf_286 rfl ?_
          refine g_if_eqB 295 291 dX8_clashOf_288 rfl rfl (fun h288 => ?_) (fun h288 => ?_)
          · refine g_iconst (pc2 := 296) dX8_clashOf_295 k_iconst_0 rfl ?_
            refine g_iaddN (pc2 := 297) dX8_clashOf_296 rfl ?_
            exact g_iretT dX8_clashOf_297 rfl (Nat.le_refl _) (Nat.le_refl _) (by simp only [pf_kind, if_neg hm, ← hb, h288]; clear hb; simp [*]) (rfl)
          · refine g_iconst (pc2 := 292) dX8_clashOf_291 k_iconst_2 rfl ?_
            refine g_goto 296 dX8_clashOf_292 rfl ?_
            refine g_iaddN (pc2 := 297) dX8_clashOf_296 rfl ?_
            exact g_iretT dX8_clashOf_297 rfl (Nat.le_refl _) (Nat.le_refl _) (by simp only [pf_kind, if_neg hm, ← hb, h288]; clear hb; simp [*]) (rfl)
        · refine g_iconst (pc2 := 282) dX8_clashOf_281 k_iconst_1 rfl ?_
          refine g_goto 286 dX8_clashOf_282 rfl ?_
          refine g_il11 (pc2 := 288) dX8_clashOf_286 rfl ?_
          refine g_if_eqB 295 291 dX8_clashOf_288 rfl rfl (fun h288 => ?_) (fun h288 => ?_)
          · refine g_iconst (pc2 := 296) dX8_clashOf_295 k_iconst_0 rfl ?_
            refine g_iaddN (pc2 := 297) dX8_clashOf_296 rfl ?_
            exact g_iretT dX8_clashOf_297 rfl (Nat.le_refl _) (Nat.le_refl _) (by simp only [pf_kind, if_neg hm, ← hb, h288]; clear hb; simp [*]) (rfl)
          · refine g_iconst (pc2 := 292) dX8_clashOf_291 k_iconst_2 rfl ?_
            refine g_goto 296 dX8_clashOf_292 rfl ?_
            refine g_iaddN (pc2 := 297) dX8_clashOf_296 rfl ?_
            exact g_iretT dX8_clashOf_297 rfl (Nat.le_refl _) (Nat.le_refl _) (by simp only [pf_kind, if_neg hm, ← hb, h288]; clear hb; simp [*]) (rfl)
    have J3 : ∀ (x : Int32) (b : Bool), x = bI b → (b || (pf_meet (σ 77 (16 + 7 * i + 3)) (σ 77 (16 + 7 * j + 3)) && !decide (pf_out (σ 77) i t &&& pf_out (σ 77) j o = 0))) = pf_sw (σ 77) i t j o → lt_g l (d + 3) mX8_clashOf lt_SA σ 231 [some (.ref 76), some (.int (nI i)), some (.int (nI t)), some (.int (nI j)), some (.int (nI o)), some (.int (pf_gap (σ 77))), some (.int (bI (pf_apart (σ 77) i j))), some (.int (σ 77 (16 + 7 * i + 2) - nI 1)), some (.int (σ 77 (16 + 7 * i + 3))), some (.int (σ 77 (16 + 7 * j + 2) - nI 1)), some (.int (σ 77 (16 + 7 * j + 3))), some (.int x)] [] r σ := by
      intro x b hx hb
      subst hx
      refine g_il11 (pc2 := 233) dX8_clashOf_231 rfl ?_
      refine g_if_neB 263 236 dX8_clashOf_233 rfl rfl (fun h233 => ?_) (fun h233 => ?_)
      · refine g_iconst (pc2 := 264) dX8_clashOf_263 k_iconst_1 rfl ?_
        refine g_goto 268 dX8_clashOf_264 rfl ?_
        refine g_is11 (pc2 := 270) dX8_clashOf_268 (by decide) rfl ?_
        exact J4 _ true bI_t.symm (by rw [← hb]; simp [*])
      · refine g_il8 (pc2 := 238) dX8_clashOf_236 rfl ?_
        refine g_il10 (pc2 := 240) dX8_clashOf_238 rfl ?_
        refine g_cSi (pc2 := 243) (R_m_meet l (d + 1) _ _ _ _) meX8_meet mlX8_119 rfl rfl (by simp) ⟨Nat.le_refl _, Nat.le_refl _⟩ dX8_clashOf_240 rfl ?_
        refine g_if_eqB 267 246 dX8_clashOf_243 rfl rfl (fun h243 => ?_) (fun h243 => ?_)
        · refine g_iconst (pc2 := 268) dX8_clashOf_267 k_iconst_0 rfl ?_
          refine g_is11 (pc2 := 270) dX8_clashOf_268 (by decide) rfl ?_
          exact J4 _ false bI_f.symm (by rw [← hb]; simp [*])
        · refine g_al0 (pc2 := 247) dX8_clashOf_246 rfl ?_
          refine g_il1 (pc2 := 248) dX8_clashOf_247 rfl ?_
          refine g_il2 (pc2 := 249) dX8_clashOf_248 rfl ?_
          refine g_cVi (pc2 := 252) (R_m_out' l d _ _ _ (by assumption) (by assumption)) meX8_wayOut mlX8_116 (by rfl) ⟨_, rfl, rfl⟩ rfl rfl (by simp) ⟨Nat.le_refl _, Nat.le_refl _⟩ dX8_clashOf_249 rfl ?_
          refine g_al0 (pc2 := 253) dX8_clashOf_252 rfl ?_
          refine g_il3 (pc2 := 254) dX8_clashOf_253 rfl ?_
          refine g_il4 (pc2 := 256) dX8_clashOf_254 rfl ?_
          refine g_cVi (pc2 := 259) (R_m_out' l d _ _ _ (by assumption) (by assumption)) meX8_wayOut mlX8_116 (by rfl) ⟨_, rfl, rfl⟩ rfl rfl (by simp) ⟨Nat.le_refl _, Nat.le_refl _⟩ dX8_clashOf_256 rfl ?_
          refine g_iand (pc2 := 260) dX8_clashOf_259 rfl ?_
          refine g_if_eq 267 263 dX8_clashOf_260 rfl rfl (fun h260 => ?_) (fun h260 => ?_)
          · refine g_iconst (pc2 := 268) dX8_clashOf_267 k_iconst_0 rfl ?_
            refine g_is11 (pc2 := 270) dX8_clashOf_268 (by decide) rfl ?_
            exact J4 _ false bI_f.symm (by rw [← hb]; simp [*])
          · refine g_iconst (pc2 := 264) dX8_clashOf_263 k_iconst_1 rfl ?_
            refine g_goto 268 dX8_clashOf_264 rfl ?_
            refine g_is11 (pc2 := 270) dX8_clashOf_268 (by decide) rfl ?_
            exact J4 _ true bI_t.symm (by rw [← hb]; simp [*])
    have J2 : ∀ (x : Int32) (b : Bool), x = bI b → ((b || (pf_meet (σ 77 (16 + 7 * i + 3)) (σ 77 (16 + 7 * j + 2) - nI 1) && !decide (pf_out (σ 77) i t &&& pf_in (σ 77) j o = 0))) || (pf_meet (σ 77 (16 + 7 * i + 3)) (σ 77 (16 + 7 * j + 3)) && !decide (pf_out (σ 77) i t &&& pf_out (σ 77) j o = 0))) = pf_sw (σ 77) i t j o → lt_g l (d + 3) mX8_clashOf lt_SA σ 192 [some (.ref 76), some (.int (nI i)), some (.int (nI t)), some (.int (nI j)), some (.int (nI o)), some (.int (pf_gap (σ 77))), some (.int (bI (pf_apart (σ 77) i j))), some (.int (σ 77 (16 + 7 * i + 2) - nI 1)), some (.int (σ 77 (16 + 7 * i + 3))), some (.int (σ 77 (16 + 7 * j + 2) - nI 1)), some (.int (σ 77 (16 + 7 * j + 3))), some (.int x)] [] r σ := by
      intro x b hx hb
      subst hx
      refine g_il11 (pc2 := 194) dX8_clashOf_192 rfl ?_
      refine g_if_neB 224 197 dX8_clashOf_194 rfl rfl (fun h194 => ?_) (fun h194 => ?_)
      · refine g_iconst (pc2 := 225) dX8_clashOf_224 k_iconst_1 rfl ?_
        refine g_goto 229 dX8_clashOf_225 rfl ?_
        refine g_is11 (pc2 := 231) dX8_clashOf_229 (by decide) rfl ?_
        exact J3 _ true bI_t.symm (by rw [← hb]; simp [*])
      · refine g_il8 (pc2 := 199) dX8_clashOf_197 rfl ?_
        refine g_il9 (pc2 := 201) dX8_clashOf_199 rfl ?_
        refine g_cSi (pc2 := 204) (R_m_meet l (d + 1) _ _ _ _) meX8_meet mlX8_119 rfl rfl (by simp) ⟨Nat.le_refl _, Nat.le_refl _⟩ dX8_clashOf_201 rfl ?_
        refine g_if_eqB 228 207 dX8_clashOf_204 rfl rfl (fun h204 => ?_) (fun h204 => ?_)
        · refine g_iconst (pc2 := 229) dX8_clashOf_228 k_iconst_0 rfl ?_
          refine g_is11 (pc2 := 231) dX8_clashOf_229 (by decide) rfl ?_
          exact J3 _ false bI_f.symm (by rw [← hb]; simp [*])
        · refine g_al0 (pc2 := 208) dX8_clashOf_207 rfl ?_
          refine g_il1 (pc2 := 209) dX8_clashOf_208 rfl ?_
          refine g_il2 (pc2 := 210) dX8_clashOf_209 rfl ?_
          refine g_cVi (pc2 := 213) (R_m_out' l d _ _ _ (by assumption) (by assumption)) meX8_wayOut mlX8_116 (by rfl) ⟨_, rfl, rfl⟩ rfl rfl (by simp) ⟨Nat.le_refl _, Nat.le_refl _⟩ dX8_clashOf_210 rfl ?_
          refine g_al0 (pc2 := 214) dX8_clashOf_213 rfl ?_
          refine g_il3 (pc2 := 215) dX8_clashOf_214 rfl ?_
          refine g_il4 (pc2 := 217) dX8_clashOf_215 rfl ?_
          refine g_cVi (pc2 := 220) (R_m_in' l d _ _ _ (by assumption) (by assumption)) meX8_wayIn mlX8_113 (by rfl) ⟨_, rfl, rfl⟩ rfl rfl (by simp) ⟨Nat.le_refl _, Nat.le_refl _⟩ dX8_clashOf_217 rfl ?_
          refine g_iand (pc2 := 221) dX8_clashOf_220 rfl ?_
          refine g_if_eq 228 224 dX8_clashOf_221 rfl rfl (fun h221 => ?_) (fun h221 => ?_)
          · refine g_iconst (pc2 := 229) dX8_clashOf_228 k_iconst_0 rfl ?_
            refine g_is11 (pc2 := 231) dX8_clashOf_229 (by decide) rfl ?_
            exact J3 _ false bI_f.symm (by rw [← hb]; simp [*])
          · refine g_iconst (pc2 := 225) dX8_clashOf_224 k_iconst_1 rfl ?_
            refine g_goto 229 dX8_clashOf_225 rfl ?_
            refine g_is11 (pc2 := 231) dX8_clashOf_229 (by decide) rfl ?_
            exact J3 _ true bI_t.symm (by rw [← hb]; simp [*])
    have J1 : ∀ (x : Int32) (b : Bool), x = bI b → (((b || (pf_meet (σ 77 (16 + 7 * i + 2) - nI 1) (σ 77 (16 + 7 * j + 3)) && !decide (pf_in (σ 77) i t &&& pf_out (σ 77) j o = 0))) || (pf_meet (σ 77 (16 + 7 * i + 3)) (σ 77 (16 + 7 * j + 2) - nI 1) && !decide (pf_out (σ 77) i t &&& pf_in (σ 77) j o = 0))) || (pf_meet (σ 77 (16 + 7 * i + 3)) (σ 77 (16 + 7 * j + 3)) && !decide (pf_out (σ 77) i t &&& pf_out (σ 77) j o = 0))) = pf_sw (σ 77) i t j o → lt_g l (d + 3) mX8_clashOf lt_SA σ 153 [some (.ref 76), some (.int (nI i)), some (.int (nI t)), some (.int (nI j)), some (.int (nI o)), some (.int (pf_gap (σ 77))), some (.int (bI (pf_apart (σ 77) i j))), some (.int (σ 77 (16 + 7 * i + 2) - nI 1)), some (.int (σ 77 (16 + 7 * i + 3))), some (.int (σ 77 (16 + 7 * j + 2) - nI 1)), some (.int (σ 77 (16 + 7 * j + 3))), some (.int x)] [] r σ := by
      intro x b hx hb
      subst hx
      refine g_il11 (pc2 := 155) dX8_clashOf_153 rfl ?_
      refine g_if_neB 185 158 dX8_clashOf_155 rfl rfl (fun h155 => ?_) (fun h155 => ?_)
      · refine g_iconst (pc2 := 186) dX8_clashOf_185 k_iconst_1 rfl ?_
        refine g_goto 190 dX8_clashOf_186 rfl ?_
        refine g_is11 (pc2 := 192) dX8_clashOf_190 (by decide) rfl ?_
        exact J2 _ true bI_t.symm (by rw [← hb]; simp [*])
      · refine g_il7 (pc2 := 160) dX8_clashOf_158 rfl ?_
        refine g_il10 (pc2 := 162) dX8_clashOf_160 rfl ?_
        refine g_cSi (pc2 := 165) (R_m_meet l (d + 1) _ _ _ _) meX8_meet mlX8_119 rfl rfl (by simp) ⟨Nat.le_refl _, Nat.le_refl _⟩ dX8_clashOf_162 rfl ?_
        refine g_if_eqB 189 168 dX8_clashOf_165 rfl rfl (fun h165 => ?_) (fun h165 => ?_)
        · refine g_iconst (pc2 := 190) dX8_clashOf_189 k_iconst_0 rfl ?_
          refine g_is11 (pc2 := 192) dX8_clashOf_190 (by decide) rfl ?_
          exact J2 _ false bI_f.symm (by rw [← hb]; simp [*])
        · refine g_al0 (pc2 := 169) dX8_clashOf_168 rfl ?_
          refine g_il1 (pc2 := 170) dX8_clashOf_169 rfl ?_
          refine g_il2 (pc2 := 171) dX8_clashOf_170 rfl ?_
          refine g_cVi (pc2 := 174) (R_m_in' l d _ _ _ (by assumption) (by assumption)) meX8_wayIn mlX8_113 (by rfl) ⟨_, rfl, rfl⟩ rfl rfl (by simp) ⟨Nat.le_refl _, Nat.le_refl _⟩ dX8_clashOf_171 rfl ?_
          refine g_al0 (pc2 := 175) dX8_clashOf_174 rfl ?_
          refine g_il3 (pc2 := 176) dX8_clashOf_175 rfl ?_
          refine g_il4 (pc2 := 178) dX8_clashOf_176 rfl ?_
          refine g_cVi (pc2 := 181) (R_m_out' l d _ _ _ (by assumption) (by assumption)) meX8_wayOut mlX8_116 (by rfl) ⟨_, rfl, rfl⟩ rfl rfl (by simp) ⟨Nat.le_refl _, Nat.le_refl _⟩ dX8_clashOf_178 rfl ?_
          refine g_iand (pc2 := 182) dX8_clashOf_181 rfl ?_
          refine g_if_eq 189 185 dX8_clashOf_182 rfl rfl (fun h182 => ?_) (fun h182 => ?_)
          · refine g_iconst (pc2 := 190) dX8_clashOf_189 k_iconst_0 rfl ?_
            refine g_is11 (pc2 := 192) dX8_clashOf_190 (by decide) rfl ?_
            exact J2 _ false bI_f.symm (by rw [← hb]; simp [*])
          · refine g_iconst (pc2 := 186) dX8_clashOf_185 k_iconst_1 rfl ?_
            refine g_goto 190 dX8_clashOf_186 rfl ?_
            refine g_is11 (pc2 := 192) dX8_clashOf_190 (by decide) rfl ?_
            exact J2 _ true bI_t.symm (by rw [← hb]; simp [*])
    have J0 : ∀ (x : Int32) (b : Bool), x = bI b → b = pf_apart (σ 77) i j → lt_g l (d + 3) mX8_clashOf lt_SA σ 83 [some (.ref 76), some (.int (nI i)), some (.int (nI t)), some (.int (nI j)), some (.int (nI o)), some (.int (pf_gap (σ 77))), some (.int x), none, none, none, none, none] [] r σ := by
      intro x b hx hb
      subst hb
      subst hx
      refine g_al0 (pc2 := 84) dX8_clashOf_83 rfl ?_
      refine g_il1 (pc2 := 85) dX8_clashOf_84 rfl ?_
      refine g_iconst (pc2 := 86) dX8_clashOf_85 k_iconst_2 rfl ?_
      refine g_cVi (pc2 := 89) (R_m_of l (d + 1) _ _ _ (by assumption) (by decide)) meX8_of mlX8_110 (by rfl) ⟨_, rfl, rfl⟩ rfl rfl (by simp) ⟨Nat.le_refl _, Nat.le_refl _⟩ dX8_clashOf_86 rfl ?_
      refine g_iconst (pc2 := 90) dX8_clashOf_89 k_iconst_1 rfl ?_
      refine g_isub (pc2 := 91) dX8_clashOf_90 rfl ?_
      refine g_is7 (pc2 := 93) dX8_clashOf_91 (by decide) rfl ?_
      refine g_al0 (pc2 := 94) dX8_clashOf_93 rfl ?_
      refine g_il1 (pc2 := 95) dX8_clashOf_94 rfl ?_
      refine g_iconst (pc2 := 96) dX8_clashOf_95 k_iconst_3 rfl ?_
      refine g_cVi (pc2 := 99) (R_m_of l (d + 1) _ _ _ (by assumption) (by decide)) meX8_of mlX8_110 (by rfl) ⟨_, rfl, rfl⟩ rfl rfl (by simp) ⟨Nat.le_refl _, Nat.le_refl _⟩ dX8_clashOf_96 rfl ?_
      refine g_is8 (pc2 := 101) dX8_clashOf_99 (by decide) rfl ?_
      refine g_al0 (pc2 := 102) dX8_clashOf_101 rfl ?_
      refine g_il3 (pc2 := 103) dX8_clashOf_102 rfl ?_
      refine g_iconst (pc2 := 104) dX8_clashOf_103 k_iconst_2 rfl ?_
      refine g_cVi (pc2 := 107) (R_m_of l (d + 1) _ _ _ (by assumption) (by decide)) meX8_of mlX8_110 (by rfl) ⟨_, rfl, rfl⟩ rfl rfl (by simp) ⟨Nat.le_refl _, Nat.le_refl _⟩ dX8_clashOf_104 rfl ?_
      refine g_iconst (pc2 := 108) dX8_clashOf_107 k_iconst_1 rfl ?_
      refine g_isub (pc2 := 109) dX8_clashOf_108 rfl ?_
      refine g_is9 (pc2 := 111) dX8_clashOf_109 (by decide) rfl ?_
      refine g_al0 (pc2 := 112) dX8_clashOf_111 rfl ?_
      refine g_il3 (pc2 := 113) dX8_clashOf_112 rfl ?_
      refine g_iconst (pc2 := 114) dX8_clashOf_113 k_iconst_3 rfl ?_
      refine g_cVi (pc2 := 117) (R_m_of l (d + 1) _ _ _ (by assumption) (by decide)) meX8_of mlX8_110 (by rfl) ⟨_, rfl, rfl⟩ rfl rfl (by simp) ⟨Nat.le_refl _, Nat.le_refl _⟩ dX8_clashOf_114 rfl ?_
      refine g_is10 (pc2 := 119) dX8_clashOf_117 (by decide) rfl ?_
      refine g_il7 (pc2 := 121) dX8_clashOf_119 rfl ?_
      refine g_il9 (pc2 := 123) dX8_clashOf_121 rfl ?_
      refine g_cSi (pc2 := 126) (R_m_meet l (d + 1) _ _ _ _) meX8_meet mlX8_119 rfl rfl (by simp) ⟨Nat.le_refl _, Nat.le_refl _⟩ dX8_clashOf_123 rfl ?_
      refine g_if_eqB 150 129 dX8_clashOf_126 rfl rfl (fun h126 => ?_) (fun h126 => ?_)
      · refine g_iconst (pc2 := 151) dX8_clashOf_150 k_iconst_0 rfl ?_
        refine g_is11 (pc2 := 153) dX8_clashOf_151 (by decide) rfl ?_
        exact J1 _ false bI_f.symm (by unfold pf_sw; simp [*])
      · refine g_al0 (pc2 := 130) dX8_clashOf_129 rfl ?_
        refine g_il1 (pc2 := 131) dX8_clashOf_130 rfl ?_
        refine g_il2 (pc2 := 132) dX8_clashOf_131 rfl ?_
        refine g_cVi (pc2 := 135) (R_m_in' l d _ _ _ (by assumption) (by assumption)) meX8_wayIn mlX8_113 (by rfl) ⟨_, rfl, rfl⟩ rfl rfl (by simp) ⟨Nat.le_refl _, Nat.le_refl _⟩ dX8_clashOf_132 rfl ?_
        refine g_al0 (pc2 := 136) dX8_clashOf_135 rfl ?_
        refine g_il3 (pc2 := 137) dX8_clashOf_136 rfl ?_
        refine g_il4 (pc2 := 139) dX8_clashOf_137 rfl ?_
        refine g_cVi (pc2 := 142) (R_m_in' l d _ _ _ (by assumption) (by assumption)) meX8_wayIn mlX8_113 (by rfl) ⟨_, rfl, rfl⟩ rfl rfl (by simp) ⟨Nat.le_refl _, Nat.le_refl _⟩ dX8_clashOf_139 rfl ?_
        refine g_iand (pc2 := 143) dX8_clashOf_142 rfl ?_
        refine g_if_eq 150 146 dX8_clashOf_143 rfl rfl (fun h143 => ?_) (fun h143 => ?_)
        · refine g_iconst (pc2 := 151) dX8_clashOf_150 k_iconst_0 rfl ?_
          refine g_is11 (pc2 := 153) dX8_clashOf_151 (by decide) rfl ?_
          exact J1 _ false bI_f.symm (by unfold pf_sw; simp [*])
        · refine g_iconst (pc2 := 147) dX8_clashOf_146 k_iconst_1 rfl ?_
          refine g_goto 151 dX8_clashOf_147 rfl ?_
          refine g_is11 (pc2 := 153) dX8_clashOf_151 (by decide) rfl ?_
          exact J1 _ true bI_t.symm (by unfold pf_sw; simp [*])
    have Jg : ∀ (x : Int32), x = pf_gap (σ 77) → lt_g l (d + 3) mX8_clashOf lt_SA σ 40 [some (.ref 76), some (.int (nI i)), some (.int (nI t)), some (.int (nI j)), some (.int (nI o)), some (.int x), none, none, none, none, none, none] [] r σ := by
      intro x hx
      subst hx
      refine g_al0 (pc2 := 41) dX8_clashOf_40 rfl ?_
      refine g_il3 (pc2 := 42) dX8_clashOf_41 rfl ?_
      refine g_iconst (pc2 := 43) dX8_clashOf_42 k_iconst_2 rfl ?_
      refine g_cVi (pc2 := 46) (R_m_of l (d + 1) _ _ _ (by assumption) (by decide)) meX8_of mlX8_110 (by rfl) ⟨_, rfl, rfl⟩ rfl rfl (by simp) ⟨Nat.le_refl _, Nat.le_refl _⟩ dX8_clashOf_43 rfl ?_
      refine g_al0 (pc2 := 47) dX8_clashOf_46 rfl ?_
      refine g_il1 (pc2 := 48) dX8_clashOf_47 rfl ?_
      refine g_iconst (pc2 := 49) dX8_clashOf_48 k_iconst_3 rfl ?_
      refine g_cVi (pc2 := 52) (R_m_of l (d + 1) _ _ _ (by assumption) (by decide)) meX8_of mlX8_110 (by rfl) ⟨_, rfl, rfl⟩ rfl rfl (by simp) ⟨Nat.le_refl _, Nat.le_refl _⟩ dX8_clashOf_49 rfl ?_
      refine g_il5 (pc2 := 54) dX8_clashOf_52 rfl ?_
      refine g_iadd (pc2 := 55) dX8_clashOf_54 rfl ?_
      refine g_icmp_ge 76 58 dX8_clashOf_55 rfl rfl (fun h55 => ?_) (fun h55 => ?_)
      · refine g_iconst (pc2 := 77) dX8_clashOf_76 k_iconst_1 rfl ?_
        refine g_goto 81 dX8_clashOf_77 rfl ?_
        refine g_is6 (pc2 := 83) dX8_clashOf_81 (by decide) rfl ?_
        exact J0 _ true bI_t.symm (by first | (simp [pf_apart, *]; done) | (simp [pf_apart, Int32.not_lt.mp h73]; done))
      · refine g_al0 (pc2 := 59) dX8_clashOf_58 rfl ?_
        refine g_il1 (pc2 := 60) dX8_clashOf_59 rfl ?_
        refine g_iconst (pc2 := 61) dX8_clashOf_60 k_iconst_2 rfl ?_
        refine g_cVi (pc2 := 64) (R_m_of l (d + 1) _ _ _ (by assumption) (by decide)) meX8_of mlX8_110 (by rfl) ⟨_, rfl, rfl⟩ rfl rfl (by simp) ⟨Nat.le_refl _, Nat.le_refl _⟩ dX8_clashOf_61 rfl ?_
        refine g_al0 (pc2 := 65) dX8_clashOf_64 rfl ?_
        refine g_il3 (pc2 := 66) dX8_clashOf_65 rfl ?_
        refine g_iconst (pc2 := 67) dX8_clashOf_66 k_iconst_3 rfl ?_
        refine g_cVi (pc2 := 70) (R_m_of l (d + 1) _ _ _ (by assumption) (by decide)) meX8_of mlX8_110 (by rfl) ⟨_, rfl, rfl⟩ rfl rfl (by simp) ⟨Nat.le_refl _, Nat.le_refl _⟩ dX8_clashOf_67 rfl ?_
        refine g_il5 (pc2 := 72) dX8_clashOf_70 rfl ?_
        refine g_iadd (pc2 := 73) dX8_clashOf_72 rfl ?_
        refine g_icmp_lt 80 76 dX8_clashOf_73 rfl rfl (fun h73 => ?_) (fun h73 => ?_)
        · refine g_iconst (pc2 := 81) dX8_clashOf_80 k_iconst_0 rfl ?_
          refine g_is6 (pc2 := 83) dX8_clashOf_81 (by decide) rfl ?_
          exact J0 _ false bI_f.symm (by first | (simp [pf_apart, *]; done) | (simp [pf_apart, Int32.not_lt.mp h73]; done))
        · refine g_iconst (pc2 := 77) dX8_clashOf_76 k_iconst_1 rfl ?_
          refine g_goto 81 dX8_clashOf_77 rfl ?_
          refine g_is6 (pc2 := 83) dX8_clashOf_81 (by decide) rfl ?_
          exact J0 _ true bI_t.symm (by first | (simp [pf_apart, *]; done) | (simp [pf_apart, Int32.not_lt.mp h73]; done))
    refine g_al0 (pc2 := 19) dX8_clashOf_18 rfl ?_
    refine g_getr (pc2 := 22) (by rfl) (by rfl) flX8_7 dX8_clashOf_19 rfl ?_
    refine g_iconst (pc2 := 23) dX8_clashOf_22 k_iconst_3 rfl ?_
    refine g_iald (pc2 := 24) (by rfl) (by omega) (by decide) dX8_clashOf_23 rfl ?_
    refine g_iconst (pc2 := 25) dX8_clashOf_24 k_iconst_1 rfl ?_
    refine g_icmp_ge 32 28 dX8_clashOf_25 rfl rfl (fun h25 => ?_) (fun h25 => ?_)
    · refine g_al0 (pc2 := 33) dX8_clashOf_32 rfl ?_
      refine g_getr (pc2 := 36) (by rfl) (by rfl) flX8_7 dX8_clashOf_33 rfl ?_
      refine g_iconst (pc2 := 37) dX8_clashOf_36 k_iconst_3 rfl ?_
      refine g_iald (pc2 := 38) (by rfl) (by omega) (by decide) dX8_clashOf_37 rfl ?_
      refine g_is5 (pc2 := 40) dX8_clashOf_38 (by decide) rfl ?_
      exact Jg _ (by simp [pf_gap, *])
    · refine g_iconst (pc2 := 29) dX8_clashOf_28 k_iconst_1 rfl ?_
      refine g_goto 38 dX8_clashOf_29 rfl ?_
      refine g_is5 (pc2 := 40) dX8_clashOf_38 (by decide) rfl ?_
      exact Jg _ (by simp [pf_gap, *])
  refine g_il2 (pc2 := 1) dX8_clashOf_0 rfl ?_
  refine g_il4 (pc2 := 3) dX8_clashOf_1 rfl ?_
  refine g_icmpN_ne 18 6 dX8_clashOf_3 rfl rfl (by omega) (by omega) (fun h3 => ?_) (fun h3 => ?_)
  · exact key (by simp_all [pf_mates])
  · refine g_al0 (pc2 := 7) dX8_clashOf_6 rfl ?_
    refine g_il1 (pc2 := 8) dX8_clashOf_7 rfl ?_
    refine g_iconst (pc2 := 9) dX8_clashOf_8 k_iconst_5 rfl ?_
    refine g_cVi (pc2 := 12) (R_m_of l (d + 1) _ _ _ (by assumption) (by decide)) meX8_of mlX8_110 (by rfl) ⟨_, rfl, rfl⟩ rfl rfl (by simp) ⟨Nat.le_refl _, Nat.le_refl _⟩ dX8_clashOf_9 rfl ?_
    refine g_il3 (pc2 := 13) dX8_clashOf_12 rfl ?_
    refine g_icmp_ne 18 16 dX8_clashOf_13 rfl rfl (fun h13 => ?_) (fun h13 => ?_)
    · exact key (by simp_all [pf_mates])
    · subst hr
      refine g_iconst (pc2 := 17) dX8_clashOf_16 k_iconst_0 rfl ?_
      exact g_iretT dX8_clashOf_17 rfl (Nat.le_refl _) (Nat.le_refl _) (by simp_all [pf_kind, pf_mates]) (rfl)
theorem nI_le0 {a : Nat} (h : a < 2 ^ 31) : nI a ≤ 0 ↔ a = 0 := by
  have := nI_leI h (show 0 < 2 ^ 31 by decide)
  rw [nI_0] at this
  rw [this]; omega
theorem Wf.tr {w : Nat → Int32} {ln T N : Nat} (h : Wf w ln T N) : tN (w 1) = T ∧ tN (w 2) = N ∧ tN (w 0) = ln := by
  obtain ⟨⟨a1, a2, a3⟩, ⟨b1, b2, b3⟩, ⟨c1, c2⟩, -⟩ := h
  exact ⟨by rw [b1]; exact tN_nI (by omega), by rw [c1]; exact tN_nI (by omega), by rw [a1]; exact tN_nI (by omega)⟩
theorem Wf.pl {w : Nat → Int32} {ln T N i : Nat} (h : Wf w ln T N) (hi : i < N) (hp : ¬ w (16 + 7 * i + 6) = -4) : ∃ t, t < T ∧ w (16 + 7 * i + 6) = nI t ∧ pf_fit w i t = true := by
  rcases (h.2.2.2.2 i hi).2.2.2.2.2 with e | e
  · exact absurd e hp
  · exact e
theorem pf_kind_le (w : Nat → Int32) (i t j o : Nat) : pf_kind w i t j o ≤ 3 := by
  unfold pf_kind
  split
  · omega
  · split <;> split <;> omega
theorem R_m_clashing (l : lt_L) (d : Nat) (σ : lt_S) {ln T N : Nat} (hw : Wf (σ 77) ln T N) (i t : Nat) (hi : i < N) (ht : t < 4) : lt_T l (d + 4) mX8_clashing lt_SA σ [.ref 76, .int (nI i), .int (nI t)] (some (oI (pf_clashing (σ 77) i t))) σ := by
  refine lt_T.of [some (.ref 76), some (.int (nI i)), some (.int (nI t)), none] rfl rfl (Nat.le_of_ble_eq_true rfl) ?_
  have hN := hw.2.2.1
  have hT := hw.2.1
  have htr := hw.tr.2.1
  have key : ∀ k, k ≤ N → fstF (pf_against (σ 77) i t) k = none → lt_g l (d + 4) mX8_clashing lt_SA σ 2 [some (.ref 76), some (.int (nI i)), some (.int (nI t)), some (.int (nI k))] [] (some (oI (pf_clashing (σ 77) i t))) σ := by
    refine lt_dn N ?_ ?_
    · intro hk
      refine g_il3 (pc2 := 3) dX8_clashing_2 rfl ?_
      refine g_al0 (pc2 := 4) dX8_clashing_3 rfl ?_
      refine g_getr (pc2 := 7) (by rfl) (by rfl) flX8_7 dX8_clashing_4 rfl ?_
      refine g_iconst (pc2 := 8) dX8_clashing_7 k_iconst_2 rfl ?_
      refine g_iald (pc2 := 9) (by rfl) (by omega) (by decide) dX8_clashing_8 rfl ?_
      rw [hN.1]
      refine g_icmpN_ge 54 12 dX8_clashing_9 rfl rfl (by omega) (by omega) (fun h9 => ?_) (fun h9 => ?_)
      · refine g_bipush (pc2 := 56) dX8_clashing_54 k_bipush_m4 rfl ?_
        exact g_iretT dX8_clashing_56 rfl (Nat.le_refl _) (Nat.le_refl _) (by unfold pf_clashing; rw [htr, hk]; rfl) (rfl)
      · omega
    · intro k hk ih h0
      have hik := hw.ln hi
      have hkk := hw.ln hk
      refine g_il3 (pc2 := 3) dX8_clashing_2 rfl ?_
      refine g_al0 (pc2 := 4) dX8_clashing_3 rfl ?_
      refine g_getr (pc2 := 7) (by rfl) (by rfl) flX8_7 dX8_clashing_4 rfl ?_
      refine g_iconst (pc2 := 8) dX8_clashing_7 k_iconst_2 rfl ?_
      refine g_iald (pc2 := 9) (by rfl) (by omega) (by decide) dX8_clashing_8 rfl ?_
      rw [hN.1]
      refine g_icmpN_ge 54 12 dX8_clashing_9 rfl rfl (by omega) (by omega) (fun h9 => ?_) (fun h9 => ?_)
      · omega
      · refine g_il3 (pc2 := 13) dX8_clashing_12 rfl ?_
        refine g_il1 (pc2 := 14) dX8_clashing_13 rfl ?_
        refine g_icmpN_eq 48 17 dX8_clashing_14 rfl rfl (by omega) (by omega) (fun h14 => ?_) (fun h14 => ?_)
        · refine g_in3 (pc2 := 51) dX8_clashing_48 (nI_inc _) (by decide) rfl ?_
          refine g_goto 2 dX8_clashing_51 rfl ?_
          exact ih (by simp only [fstF, h0]; rw [show pf_against (σ 77) i t k = false from by first | (simp [pf_against, h14]; done) | (simp [pf_against, h26]; done) | (have hz := (nI_le0 (by have := pf_kind_le (σ 77) i t k o; omega)).mp h43; simp [pf_against, ho2, tN_nI (show o < 2 ^ 31 by omega), hz]; done)]; rfl)
        · refine g_al0 (pc2 := 18) dX8_clashing_17 rfl ?_
          refine g_il3 (pc2 := 19) dX8_clashing_18 rfl ?_
          refine g_bipush (pc2 := 21) dX8_clashing_19 k_bipush_6 rfl ?_
          refine g_cVi (pc2 := 24) (R_m_of l (d + 2) _ _ _ hkk.1 (by decide)) meX8_of mlX8_110 (by rfl) ⟨_, rfl, rfl⟩ rfl rfl (by simp) ⟨Nat.le_refl _, Nat.le_refl _⟩ dX8_clashing_21 rfl ?_
          refine g_bipush (pc2 := 26) dX8_clashing_24 k_bipush_m4 rfl ?_
          refine g_icmp_eq 48 29 dX8_clashing_26 rfl rfl (fun h26 => ?_) (fun h26 => ?_)
          · refine g_in3 (pc2 := 51) dX8_clashing_48 (nI_inc _) (by decide) rfl ?_
            refine g_goto 2 dX8_clashing_51 rfl ?_
            exact ih (by simp only [fstF, h0]; rw [show pf_against (σ 77) i t k = false from by first | (simp [pf_against, h14]; done) | (simp [pf_against, h26]; done) | (have hz := (nI_le0 (by have := pf_kind_le (σ 77) i t k o; omega)).mp h43; simp [pf_against, ho2, tN_nI (show o < 2 ^ 31 by omega), hz]; done)]; rfl)
          · refine g_al0 (pc2 := 30) dX8_clashing_29 rfl ?_
            refine g_il1 (pc2 := 31) dX8_clashing_30 rfl ?_
            refine g_il2 (pc2 := 32) dX8_clashing_31 rfl ?_
            obtain ⟨o, ho1, ho2, ho3⟩ := hw.pl hk h26
            refine g_il3 (pc2 := 33) dX8_clashing_32 rfl ?_
            refine g_al0 (pc2 := 34) dX8_clashing_33 rfl ?_
            refine g_il3 (pc2 := 35) dX8_clashing_34 rfl ?_
            refine g_bipush (pc2 := 37) dX8_clashing_35 k_bipush_6 rfl ?_
            refine g_cVi (pc2 := 40) (R_m_of l (d + 2) _ _ _ hkk.1 (by decide)) meX8_of mlX8_110 (by rfl) ⟨_, rfl, rfl⟩ rfl rfl (by simp) ⟨Nat.le_refl _, Nat.le_refl _⟩ dX8_clashing_37 rfl ?_
            rw [ho2]
            refine g_cVi (pc2 := 43) (R_m_clashOf l d _ _ _ _ _ hik ht hkk (by omega)) meX8_clashOf mlX8_122 (by rfl) ⟨_, rfl, rfl⟩ rfl rfl (by simp) ⟨Nat.le_refl _, Nat.le_refl _⟩ dX8_clashing_40 rfl ?_
            refine g_if_le 48 46 dX8_clashing_43 rfl rfl (fun h43 => ?_) (fun h43 => ?_)
            · refine g_in3 (pc2 := 51) dX8_clashing_48 (nI_inc _) (by decide) rfl ?_
              refine g_goto 2 dX8_clashing_51 rfl ?_
              exact ih (by simp only [fstF, h0]; rw [show pf_against (σ 77) i t k = false from by first | (simp [pf_against, h14]; done) | (simp [pf_against, h26]; done) | (have hz := (nI_le0 (by have := pf_kind_le (σ 77) i t k o; omega)).mp h43; simp [pf_against, ho2, tN_nI (show o < 2 ^ 31 by omega), hz]; done)]; rfl)
            · refine g_il3 (pc2 := 47) dX8_clashing_46 rfl ?_
              exact g_iretT dX8_clashing_47 rfl (Nat.le_refl _) (Nat.le_refl _) (by unfold pf_clashing; rw [htr, fstF_at h0 (by have hz := mt (nI_le0 (by have := pf_kind_le (σ 77) i t k o; omega)).mpr h43; simp [pf_against, h14, h26, ho2, tN_nI (show o < 2 ^ 31 by omega), m4_ne (show o < 2 ^ 31 by omega)]; omega) N hk]; rfl) (rfl)
  refine g_iconst (pc2 := 1) dX8_clashing_0 k_iconst_0 rfl ?_
  refine g_is3 (pc2 := 2) dX8_clashing_1 (by decide) rfl ?_
  exact key 0 (Nat.zero_le _) rfl
theorem pf_clashing_lt {w : Nat → Int32} {ln T N i t : Nat} (hw : Wf w ln T N) : ∀ j, pf_clashing w i t = some j → j < 2 ^ 31 := by
  intro j h
  have h1 := fstF_lt h
  rw [hw.tr.2.1] at h1
  have := hw.2.2.1.2
  omega
theorem R_m_whyNot (l : lt_L) (d : Nat) (σ : lt_S) {ln T N : Nat} (hw : Wf (σ 77) ln T N) (i t : Nat) (hi : i < N) (ht : t < 4) : lt_T l (d + 5) mX8_whyNot lt_SA σ [.ref 76, .int (nI i), .int (nI t)] (some (nI (pf_why (σ 77) i t))) σ := by
  refine lt_T.of [some (.ref 76), some (.int (nI i)), some (.int (nI t)), none] rfl rfl (Nat.le_of_ble_eq_true rfl) ?_
  have hik := hw.ln hi
  cases hc : pf_clashing (σ 77) i t with
  | none =>
    refine g_al0 (pc2 := 1) dX8_whyNot_0 rfl ?_
    refine g_il1 (pc2 := 2) dX8_whyNot_1 rfl ?_
    refine g_il2 (pc2 := 3) dX8_whyNot_2 rfl ?_
    refine g_cVi (pc2 := 6) (R_m_in' l (d + 2) _ _ _ hik ht) meX8_wayIn mlX8_113 (by rfl) ⟨_, rfl, rfl⟩ rfl rfl (by simp) ⟨Nat.le_refl _, Nat.le_refl _⟩ dX8_whyNot_3 rfl ?_
    refine g_bipush (pc2 := 8) dX8_whyNot_6 k_bipush_m4 rfl ?_
    refine g_icmp_ne 13 11 dX8_whyNot_8 rfl rfl (fun h8 => ?_) (fun h8 => ?_)
    · refine g_al0 (pc2 := 14) dX8_whyNot_13 rfl ?_
      refine g_il1 (pc2 := 15) dX8_whyNot_14 rfl ?_
      refine g_il2 (pc2 := 16) dX8_whyNot_15 rfl ?_
      refine g_cVi (pc2 := 19) (R_m_out' l (d + 2) _ _ _ hik ht) meX8_wayOut mlX8_116 (by rfl) ⟨_, rfl, rfl⟩ rfl rfl (by simp) ⟨Nat.le_refl _, Nat.le_refl _⟩ dX8_whyNot_16 rfl ?_
      refine g_bipush (pc2 := 21) dX8_whyNot_19 k_bipush_m4 rfl ?_
      refine g_icmp_ne 26 24 dX8_whyNot_21 rfl rfl (fun h21 => ?_) (fun h21 => ?_)
      · refine g_al0 (pc2 := 27) dX8_whyNot_26 rfl ?_
        refine g_il1 (pc2 := 28) dX8_whyNot_27 rfl ?_
        refine g_il2 (pc2 := 29) dX8_whyNot_28 rfl ?_
        refine g_cVi (pc2 := 32) (R_m_clashing l d _ hw _ _ hi ht) meX8_clashing mlX8_126 (by rfl) ⟨_, rfl, rfl⟩ rfl rfl (by simp) ⟨Nat.le_refl _, Nat.le_refl _⟩ dX8_whyNot_29 rfl ?_
        rw [hc]
        refine g_is3 (pc2 := 33) dX8_whyNot_32 (by decide) rfl ?_
        refine g_il3 (pc2 := 34) dX8_whyNot_33 rfl ?_
        refine g_bipush (pc2 := 36) dX8_whyNot_34 k_bipush_m4 rfl ?_
        refine g_icmp_ne 43 39 dX8_whyNot_36 rfl rfl (fun h36 => ?_) (fun h36 => ?_)
        · exact absurd rfl h36
        · refine g_iconst (pc2 := 40) dX8_whyNot_39 k_iconst_0 rfl ?_
          refine g_goto 46 dX8_whyNot_40 rfl ?_
          exact g_iretT dX8_whyNot_46 rfl (Nat.le_refl _) (Nat.le_refl _) (by simp [pf_why, *]) (rfl)
      · refine g_iconst (pc2 := 25) dX8_whyNot_24 k_iconst_2 rfl ?_
        exact g_iretT dX8_whyNot_25 rfl (Nat.le_refl _) (Nat.le_refl _) (by simp [pf_why, *]) (rfl)
    · refine g_iconst (pc2 := 12) dX8_whyNot_11 k_iconst_1 rfl ?_
      exact g_iretT dX8_whyNot_12 rfl (Nat.le_refl _) (Nat.le_refl _) (by simp [pf_why, *]) (rfl)
  | some j =>
    have hj := pf_clashing_lt hw j hc
    refine g_al0 (pc2 := 1) dX8_whyNot_0 rfl ?_
    refine g_il1 (pc2 := 2) dX8_whyNot_1 rfl ?_
    refine g_il2 (pc2 := 3) dX8_whyNot_2 rfl ?_
    refine g_cVi (pc2 := 6) (R_m_in' l (d + 2) _ _ _ hik ht) meX8_wayIn mlX8_113 (by rfl) ⟨_, rfl, rfl⟩ rfl rfl (by simp) ⟨Nat.le_refl _, Nat.le_refl _⟩ dX8_whyNot_3 rfl ?_
    refine g_bipush (pc2 := 8) dX8_whyNot_6 k_bipush_m4 rfl ?_
    refine g_icmp_ne 13 11 dX8_whyNot_8 rfl rfl (fun h8 => ?_) (fun h8 => ?_)
    · refine g_al0 (pc2 := 14) dX8_whyNot_13 rfl ?_
      refine g_il1 (pc2 := 15) dX8_whyNot_14 rfl ?_
      refine g_il2 (pc2 := 16) dX8_whyNot_15 rfl ?_
      refine g_cVi (pc2 := 19) (R_m_out' l (d + 2) _ _ _ hik ht) meX8_wayOut mlX8_116 (by rfl) ⟨_, rfl, rfl⟩ rfl rfl (by simp) ⟨Nat.le_refl _, Nat.le_refl _⟩ dX8_whyNot_16 rfl ?_
      refine g_bipush (pc2 := 21) dX8_whyNot_19 k_bipush_m4 rfl ?_
      refine g_icmp_ne 26 24 dX8_whyNot_21 rfl rfl (fun h21 => ?_) (fun h21 => ?_)
      · refine g_al0 (pc2 := 27) dX8_whyNot_26 rfl ?_
        refine g_il1 (pc2 := 28) dX8_whyNot_27 rfl ?_
        refine g_il2 (pc2 := 29) dX8_whyNot_28 rfl ?_
        refine g_cVi (pc2 := 32) (R_m_clashing l d _ hw _ _ hi ht) meX8_clashing mlX8_126 (by rfl) ⟨_, rfl, rfl⟩ rfl rfl (by simp) ⟨Nat.le_refl _, Nat.le_refl _⟩ dX8_whyNot_29 rfl ?_
        rw [hc, show oI (some j) = nI j from rfl]
        refine g_is3 (pc2 := 33) dX8_whyNot_32 (by decide) rfl ?_
        refine g_il3 (pc2 := 34) dX8_whyNot_33 rfl ?_
        refine g_bipush (pc2 := 36) dX8_whyNot_34 k_bipush_m4 rfl ?_
        refine g_icmp_ne 43 39 dX8_whyNot_36 rfl rfl (fun h36 => ?_) (fun h36 => ?_)
        · refine g_iconst (pc2 := 44) dX8_whyNot_43 k_iconst_3 rfl ?_
          refine g_il3 (pc2 := 45) dX8_whyNot_44 rfl ?_
          refine g_iaddN (pc2 := 46) dX8_whyNot_45 rfl ?_
          exact g_iretT dX8_whyNot_46 rfl (Nat.le_refl _) (Nat.le_refl _) (by simp [pf_why, *]) (rfl)
        · exact absurd h36 (m4_ne hj)
      · refine g_iconst (pc2 := 25) dX8_whyNot_24 k_iconst_2 rfl ?_
        exact g_iretT dX8_whyNot_25 rfl (Nat.le_refl _) (Nat.le_refl _) (by simp [pf_why, *]) (rfl)
    · refine g_iconst (pc2 := 12) dX8_whyNot_11 k_iconst_1 rfl ?_
      exact g_iretT dX8_whyNot_12 rfl (Nat.le_refl _) (Nat.le_refl _) (by simp [pf_why, *]) (rfl)
theorem pf_why_le {w : Nat → Int32} {ln T N i t : Nat} (hw : Wf w ln T N) : pf_why w i t ≤ 10 := by
  unfold pf_why
  split
  · omega
  · split
    · omega
    · cases hc : pf_clashing w i t with
      | none => simp
      | some j =>
        have h1 := fstF_lt hc
        rw [hw.tr.2.1] at h1
        have := hw.2.2.1.2
        simp
        omega
theorem R_m_fits (l : lt_L) (d : Nat) (σ : lt_S) {ln T N : Nat} (hw : Wf (σ 77) ln T N) (i : Nat) (hi : i < N) : lt_T l (d + 4) mX8_fits lt_SA σ [.ref 76, .int (nI i)] (some (pf_fits (σ 77) i)) σ := by
  refine lt_T.of [some (.ref 76), some (.int (nI i)), none, none] rfl rfl (Nat.le_of_ble_eq_true rfl) ?_
  have hik := hw.ln hi
  have hT := hw.2.1
  unfold pf_fits
  rw [hw.tr.1]
  have key : ∀ k, k ≤ T → lt_g l (d + 4) mX8_fits lt_SA σ 4 [some (.ref 76), some (.int (nI i)), some (.int (orF (fun t => if pf_fit (σ 77) i t then nI 1 <<< (nI t &&& 31) else nI 0) k)), some (.int (nI k))] [] (some (orF (fun t => if pf_fit (σ 77) i t then nI 1 <<< (nI t &&& 31) else nI 0) T)) σ := by
    refine lt_dn T ?_ ?_
    · refine g_il3 (pc2 := 5) dX8_fits_4 rfl ?_
      refine g_al0 (pc2 := 6) dX8_fits_5 rfl ?_
      refine g_getr (pc2 := 9) (by rfl) (by rfl) flX8_7 dX8_fits_6 rfl ?_
      refine g_iconst (pc2 := 10) dX8_fits_9 k_iconst_1 rfl ?_
      refine g_iald (pc2 := 11) (by rfl) (by omega) (by decide) dX8_fits_10 rfl ?_
      rw [hT.1]
      refine g_icmpN_ge 39 14 dX8_fits_11 rfl rfl (by omega) (by omega) (fun h11 => ?_) (fun h11 => ?_)
      · refine g_il2 (pc2 := 40) dX8_fits_39 rfl ?_
        exact g_iretT dX8_fits_40 rfl (Nat.le_refl _) (Nat.le_refl _) (rfl) (rfl)
      · omega
    · intro k hk ih
      refine g_il3 (pc2 := 5) dX8_fits_4 rfl ?_
      refine g_al0 (pc2 := 6) dX8_fits_5 rfl ?_
      refine g_getr (pc2 := 9) (by rfl) (by rfl) flX8_7 dX8_fits_6 rfl ?_
      refine g_iconst (pc2 := 10) dX8_fits_9 k_iconst_1 rfl ?_
      refine g_iald (pc2 := 11) (by rfl) (by omega) (by decide) dX8_fits_10 rfl ?_
      rw [hT.1]
      refine g_icmpN_ge 39 14 dX8_fits_11 rfl rfl (by omega) (by omega) (fun h11 => ?_) (fun h11 => ?_)
      · omega
      · refine g_il2 (pc2 := 15) dX8_fits_14 rfl ?_
        refine g_al0 (pc2 := 16) dX8_fits_15 rfl ?_
        refine g_il1 (pc2 := 17) dX8_fits_16 rfl ?_
        refine g_il3 (pc2 := 18) dX8_fits_17 rfl ?_
        refine g_cVi (pc2 := 21) (R_m_doesFit l d _ _ _ hik (by omega)) meX8_doesFit mlX8_129 (by rfl) ⟨_, rfl, rfl⟩ rfl rfl (by simp) ⟨Nat.le_refl _, Nat.le_refl _⟩ dX8_fits_18 rfl ?_
        refine g_if_eqB 30 24 dX8_fits_21 rfl rfl (fun h21 => ?_) (fun h21 => ?_)
        · refine g_iconst (pc2 := 31) dX8_fits_30 k_iconst_0 rfl ?_
          refine g_ior (pc2 := 32) dX8_fits_31 rfl ?_
          refine g_is2 (pc2 := 33) dX8_fits_32 (by decide) rfl ?_
          refine g_in3 (pc2 := 36) dX8_fits_33 (nI_inc _) (by decide) rfl ?_
          refine g_goto 4 dX8_fits_36 rfl ?_
          simp only [orF, h21] at ih; exact ih
        · refine g_iconst (pc2 := 25) dX8_fits_24 k_iconst_1 rfl ?_
          refine g_il3 (pc2 := 26) dX8_fits_25 rfl ?_
          refine g_ishl (pc2 := 27) dX8_fits_26 rfl ?_
          refine g_goto 31 dX8_fits_27 rfl ?_
          refine g_ior (pc2 := 32) dX8_fits_31 rfl ?_
          refine g_is2 (pc2 := 33) dX8_fits_32 (by decide) rfl ?_
          refine g_in3 (pc2 := 36) dX8_fits_33 (nI_inc _) (by decide) rfl ?_
          refine g_goto 4 dX8_fits_36 rfl ?_
          simp only [orF, h21] at ih; exact ih
  refine g_iconst (pc2 := 1) dX8_fits_0 k_iconst_0 rfl ?_
  refine g_is2 (pc2 := 2) dX8_fits_1 (by decide) rfl ?_
  refine g_iconst (pc2 := 3) dX8_fits_2 k_iconst_0 rfl ?_
  refine g_is3 (pc2 := 4) dX8_fits_3 (by decide) rfl ?_
  exact key 0 (Nat.zero_le _)
theorem R_m_hardOf (l : lt_L) (d : Nat) (σ : lt_S) {ln T N : Nat} (hw : Wf (σ 77) ln T N) (i : Nat) (hi : i < N) : lt_T l (d + 6) mX8_hardOf lt_SA σ [.ref 76, .int (nI i)] (some (nI (pf_hard (σ 77) i))) σ := by
  refine lt_T.of [some (.ref 76), some (.int (nI i)), none, none] rfl rfl (Nat.le_of_ble_eq_true rfl) ?_
  have hT := hw.2.1
  unfold pf_hard
  rw [hw.tr.1]
  have key : ∀ k, k ≤ T → lt_g l (d + 6) mX8_hardOf lt_SA σ 4 [some (.ref 76), some (.int (nI i)), some (.int (nI (sumF (fun t => decide (pf_why (σ 77) i t = 0)) k))), some (.int (nI k))] [] (some (nI (sumF (fun t => decide (pf_why (σ 77) i t = 0)) T))) σ := by
    refine lt_dn T ?_ ?_
    · refine g_il3 (pc2 := 5) dX8_hardOf_4 rfl ?_
      refine g_al0 (pc2 := 6) dX8_hardOf_5 rfl ?_
      refine g_getr (pc2 := 9) (by rfl) (by rfl) flX8_7 dX8_hardOf_6 rfl ?_
      refine g_iconst (pc2 := 10) dX8_hardOf_9 k_iconst_1 rfl ?_
      refine g_iald (pc2 := 11) (by rfl) (by omega) (by decide) dX8_hardOf_10 rfl ?_
      rw [hT.1]
      refine g_icmpN_ge 37 14 dX8_hardOf_11 rfl rfl (by omega) (by omega) (fun h11 => ?_) (fun h11 => ?_)
      · refine g_il2 (pc2 := 38) dX8_hardOf_37 rfl ?_
        exact g_iretT dX8_hardOf_38 rfl (Nat.le_refl _) (Nat.le_refl _) (rfl) (rfl)
      · omega
    · intro k hk ih
      have hwy : pf_why (σ 77) i k ≤ 10 := pf_why_le hw
      refine g_il3 (pc2 := 5) dX8_hardOf_4 rfl ?_
      refine g_al0 (pc2 := 6) dX8_hardOf_5 rfl ?_
      refine g_getr (pc2 := 9) (by rfl) (by rfl) flX8_7 dX8_hardOf_6 rfl ?_
      refine g_iconst (pc2 := 10) dX8_hardOf_9 k_iconst_1 rfl ?_
      refine g_iald (pc2 := 11) (by rfl) (by omega) (by decide) dX8_hardOf_10 rfl ?_
      rw [hT.1]
      refine g_icmpN_ge 37 14 dX8_hardOf_11 rfl rfl (by omega) (by omega) (fun h11 => ?_) (fun h11 => ?_)
      · omega
      · refine g_il2 (pc2 := 15) dX8_hardOf_14 rfl ?_
        refine g_al0 (pc2 := 16) dX8_hardOf_15 rfl ?_
        refine g_il1 (pc2 := 17) dX8_hardOf_16 rfl ?_
        refine g_il3 (pc2 := 18) dX8_hardOf_17 rfl ?_
        refine g_cVi (pc2 := 21) (R_m_whyNot l d _ hw _ _ hi (by omega)) meX8_whyNot mlX8_132 (by rfl) ⟨_, rfl, rfl⟩ rfl rfl (by simp) ⟨Nat.le_refl _, Nat.le_refl _⟩ dX8_hardOf_18 rfl ?_
        refine g_if_ne 28 24 dX8_hardOf_21 rfl rfl (fun h21 => ?_) (fun h21 => ?_)
        · refine g_iconst (pc2 := 29) dX8_hardOf_28 k_iconst_0 rfl ?_
          refine g_iaddN (pc2 := 30) dX8_hardOf_29 rfl ?_
          refine g_is2 (pc2 := 31) dX8_hardOf_30 (by decide) rfl ?_
          refine g_in3 (pc2 := 34) dX8_hardOf_31 (nI_inc _) (by decide) rfl ?_
          refine g_goto 4 dX8_hardOf_34 rfl ?_
          rw [← nI_0, nI_eq (by omega) (by decide)] at h21; simp only [sumF, h21] at ih; exact ih
        · refine g_iconst (pc2 := 25) dX8_hardOf_24 k_iconst_1 rfl ?_
          refine g_goto 29 dX8_hardOf_25 rfl ?_
          refine g_iaddN (pc2 := 30) dX8_hardOf_29 rfl ?_
          refine g_is2 (pc2 := 31) dX8_hardOf_30 (by decide) rfl ?_
          refine g_in3 (pc2 := 34) dX8_hardOf_31 (nI_inc _) (by decide) rfl ?_
          refine g_goto 4 dX8_hardOf_34 rfl ?_
          rw [← nI_0, nI_eq (by omega) (by decide)] at h21; simp only [sumF, h21] at ih; exact ih
  refine g_iconst (pc2 := 1) dX8_hardOf_0 k_iconst_0 rfl ?_
  refine g_is2 (pc2 := 2) dX8_hardOf_1 (by decide) rfl ?_
  refine g_iconst (pc2 := 3) dX8_hardOf_2 k_iconst_0 rfl ?_
  refine g_is3 (pc2 := 4) dX8_hardOf_3 (by decide) rfl ?_
  exact key 0 (Nat.zero_le _)
theorem R_m_placed (l : lt_L) (d : Nat) (σ : lt_S) {ln T N : Nat} (hw : Wf (σ 77) ln T N) : lt_T l (d + 2) mX8_placed lt_SA σ [.ref 76] (some (nI (pf_placed (σ 77)))) σ := by
  refine lt_T.of [some (.ref 76), none, none] rfl rfl (Nat.le_of_ble_eq_true rfl) ?_
  have hN := hw.2.2.1
  unfold pf_placed
  rw [hw.tr.2.1]
  have key : ∀ k, k ≤ N → lt_g l (d + 2) mX8_placed lt_SA σ 4 [some (.ref 76), some (.int (nI (sumF (fun i => !decide (σ 77 (16 + 7 * i + 6) = -4)) k))), some (.int (nI k))] [] (some (nI (sumF (fun i => !decide (σ 77 (16 + 7 * i + 6) = -4)) N))) σ := by
    refine lt_dn N ?_ ?_
    · refine g_il2 (pc2 := 5) dX8_placed_4 rfl ?_
      refine g_al0 (pc2 := 6) dX8_placed_5 rfl ?_
      refine g_getr (pc2 := 9) (by rfl) (by rfl) flX8_7 dX8_placed_6 rfl ?_
      refine g_iconst (pc2 := 10) dX8_placed_9 k_iconst_2 rfl ?_
      refine g_iald (pc2 := 11) (by rfl) (by omega) (by decide) dX8_placed_10 rfl ?_
      rw [hN.1]
      refine g_icmpN_ge 40 14 dX8_placed_11 rfl rfl (by omega) (by omega) (fun h11 => ?_) (fun h11 => ?_)
      · refine g_il1 (pc2 := 41) dX8_placed_40 rfl ?_
        exact g_iretT dX8_placed_41 rfl (Nat.le_refl _) (Nat.le_refl _) (rfl) (rfl)
      · omega
    · intro k hk ih
      refine g_il2 (pc2 := 5) dX8_placed_4 rfl ?_
      refine g_al0 (pc2 := 6) dX8_placed_5 rfl ?_
      refine g_getr (pc2 := 9) (by rfl) (by rfl) flX8_7 dX8_placed_6 rfl ?_
      refine g_iconst (pc2 := 10) dX8_placed_9 k_iconst_2 rfl ?_
      refine g_iald (pc2 := 11) (by rfl) (by omega) (by decide) dX8_placed_10 rfl ?_
      rw [hN.1]
      refine g_icmpN_ge 40 14 dX8_placed_11 rfl rfl (by omega) (by omega) (fun h11 => ?_) (fun h11 => ?_)
      · omega
      · refine g_il1 (pc2 := 15) dX8_placed_14 rfl ?_
        refine g_al0 (pc2 := 16) dX8_placed_15 rfl ?_
        refine g_il2 (pc2 := 17) dX8_placed_16 rfl ?_
        refine g_bipush (pc2 := 19) dX8_placed_17 k_bipush_6 rfl ?_
        refine g_cVi (pc2 := 22) (R_m_of l d _ _ _ (by omega) (by decide)) meX8_of mlX8_110 (by rfl) ⟨_, rfl, rfl⟩ rfl rfl (by simp) ⟨Nat.le_refl _, Nat.le_refl _⟩ dX8_placed_19 rfl ?_
        refine g_bipush (pc2 := 24) dX8_placed_22 k_bipush_m4 rfl ?_
        refine g_icmp_ne 31 27 dX8_placed_24 rfl rfl (fun h24 => ?_) (fun h24 => ?_)
        · refine g_iconst (pc2 := 32) dX8_placed_31 k_iconst_1 rfl ?_
          refine g_iaddN (pc2 := 33) dX8_placed_32 rfl ?_
          refine g_is1 (pc2 := 34) dX8_placed_33 (by decide) rfl ?_
          refine g_in2 (pc2 := 37) dX8_placed_34 (nI_inc _) (by decide) rfl ?_
          refine g_goto 4 dX8_placed_37 rfl ?_
          simp only [sumF, h24] at ih; exact ih
        · refine g_iconst (pc2 := 28) dX8_placed_27 k_iconst_0 rfl ?_
          refine g_goto 32 dX8_placed_28 rfl ?_
          refine g_iaddN (pc2 := 33) dX8_placed_32 rfl ?_
          refine g_is1 (pc2 := 34) dX8_placed_33 (by decide) rfl ?_
          refine g_in2 (pc2 := 37) dX8_placed_34 (nI_inc _) (by decide) rfl ?_
          refine g_goto 4 dX8_placed_37 rfl ?_
          simp only [sumF, h24] at ih; exact ih
  refine g_iconst (pc2 := 1) dX8_placed_0 k_iconst_0 rfl ?_
  refine g_is1 (pc2 := 2) dX8_placed_1 (by decide) rfl ?_
  refine g_iconst (pc2 := 3) dX8_placed_2 k_iconst_0 rfl ?_
  refine g_is2 (pc2 := 4) dX8_placed_3 (by decide) rfl ?_
  exact key 0 (Nat.zero_le _)
theorem R_m_asWished (l : lt_L) (d : Nat) (σ : lt_S) {ln T N : Nat} (hw : Wf (σ 77) ln T N) : lt_T l (d + 2) mX8_asWished lt_SA σ [.ref 76] (some (nI (pf_wished (σ 77)))) σ := by
  refine lt_T.of [some (.ref 76), none, none] rfl rfl (Nat.le_of_ble_eq_true rfl) ?_
  have hN := hw.2.2.1
  unfold pf_wished
  rw [hw.tr.2.1]
  have key : ∀ k, k ≤ N → lt_g l (d + 2) mX8_asWished lt_SA σ 4 [some (.ref 76), some (.int (nI (sumF (fun i => !decide (σ 77 (16 + 7 * i + 6) = -4) && decide (σ 77 (16 + 7 * i + 6) = σ 77 (16 + 7 * i + 4))) k))), some (.int (nI k))] [] (some (nI (sumF (fun i => !decide (σ 77 (16 + 7 * i + 6) = -4) && decide (σ 77 (16 + 7 * i + 6) = σ 77 (16 + 7 * i + 4))) N))) σ := by
    refine lt_dn N ?_ ?_
    · refine g_il2 (pc2 := 5) dX8_asWished_4 rfl ?_
      refine g_al0 (pc2 := 6) dX8_asWished_5 rfl ?_
      refine g_getr (pc2 := 9) (by rfl) (by rfl) flX8_7 dX8_asWished_6 rfl ?_
      refine g_iconst (pc2 := 10) dX8_asWished_9 k_iconst_2 rfl ?_
      refine g_iald (pc2 := 11) (by rfl) (by omega) (by decide) dX8_asWished_10 rfl ?_
      rw [hN.1]
      refine g_icmpN_ge 56 14 dX8_asWished_11 rfl rfl (by omega) (by omega) (fun h11 => ?_) (fun h11 => ?_)
      · refine g_il1 (pc2 := 57) dX8_asWished_56 rfl ?_
        exact g_iretT dX8_asWished_57 rfl (Nat.le_refl _) (Nat.le_refl _) (rfl) (rfl)
      · omega
    · intro k hk ih
      refine g_il2 (pc2 := 5) dX8_asWished_4 rfl ?_
      refine g_al0 (pc2 := 6) dX8_asWished_5 rfl ?_
      refine g_getr (pc2 := 9) (by rfl) (by rfl) flX8_7 dX8_asWished_6 rfl ?_
      refine g_iconst (pc2 := 10) dX8_asWished_9 k_iconst_2 rfl ?_
      refine g_iald (pc2 := 11) (by rfl) (by omega) (by decide) dX8_asWished_10 rfl ?_
      rw [hN.1]
      refine g_icmpN_ge 56 14 dX8_asWished_11 rfl rfl (by omega) (by omega) (fun h11 => ?_) (fun h11 => ?_)
      · omega
      · refine g_il1 (pc2 := 15) dX8_asWished_14 rfl ?_
        refine g_al0 (pc2 := 16) dX8_asWished_15 rfl ?_
        refine g_il2 (pc2 := 17) dX8_asWished_16 rfl ?_
        refine g_bipush (pc2 := 19) dX8_asWished_17 k_bipush_6 rfl ?_
        refine g_cVi (pc2 := 22) (R_m_of l d _ _ _ (by omega) (by decide)) meX8_of mlX8_110 (by rfl) ⟨_, rfl, rfl⟩ rfl rfl (by simp) ⟨Nat.le_refl _, Nat.le_refl _⟩ dX8_asWished_19 rfl ?_
        refine g_bipush (pc2 := 24) dX8_asWished_22 k_bipush_m4 rfl ?_
        refine g_icmp_eq 47 27 dX8_asWished_24 rfl rfl (fun h24 => ?_) (fun h24 => ?_)
        · refine g_iconst (pc2 := 48) dX8_asWished_47 k_iconst_0 rfl ?_
          refine g_iaddN (pc2 := 49) dX8_asWished_48 rfl ?_
          refine g_is1 (pc2 := 50) dX8_asWished_49 (by decide) rfl ?_
          refine g_in2 (pc2 := 53) dX8_asWished_50 (nI_inc _) (by decide) rfl ?_
          refine g_goto 4 dX8_asWished_53 rfl ?_
          first | (have e9 : (!decide (σ 77 (16 + 7 * k + 6) = -4) && decide (σ 77 (16 + 7 * k + 6) = σ 77 (16 + 7 * k + 4))) = false := (by first | (simp [h24]; done) | (simp [h40]; done)); simp only [sumF, e9] at ih; exact ih) | (have e9 : (!decide (σ 77 (16 + 7 * k + 6) = -4) && decide (σ 77 (16 + 7 * k + 6) = σ 77 (16 + 7 * k + 4))) = true := (by rw [h40] at h24 ⊢; simp [h24]); simp only [sumF, e9] at ih; exact ih)
        · refine g_al0 (pc2 := 28) dX8_asWished_27 rfl ?_
          refine g_il2 (pc2 := 29) dX8_asWished_28 rfl ?_
          refine g_bipush (pc2 := 31) dX8_asWished_29 k_bipush_6 rfl ?_
          refine g_cVi (pc2 := 34) (R_m_of l d _ _ _ (by omega) (by decide)) meX8_of mlX8_110 (by rfl) ⟨_, rfl, rfl⟩ rfl rfl (by simp) ⟨Nat.le_refl _, Nat.le_refl _⟩ dX8_asWished_31 rfl ?_
          refine g_al0 (pc2 := 35) dX8_asWished_34 rfl ?_
          refine g_il2 (pc2 := 36) dX8_asWished_35 rfl ?_
          refine g_iconst (pc2 := 37) dX8_asWished_36 k_iconst_4 rfl ?_
          refine g_cVi (pc2 := 40) (R_m_of l d _ _ _ (by omega) (by decide)) meX8_of mlX8_110 (by rfl) ⟨_, rfl, rfl⟩ rfl rfl (by simp) ⟨Nat.le_refl _, Nat.le_refl _⟩ dX8_asWished_37 rfl ?_
          refine g_icmp_ne 47 43 dX8_asWished_40 rfl rfl (fun h40 => ?_) (fun h40 => ?_)
          · refine g_iconst (pc2 := 48) dX8_asWished_47 k_iconst_0 rfl ?_
            refine g_iaddN (pc2 := 49) dX8_asWished_48 rfl ?_
            refine g_is1 (pc2 := 50) dX8_asWished_49 (by decide) rfl ?_
            refine g_in2 (pc2 := 53) dX8_asWished_50 (nI_inc _) (by decide) rfl ?_
            refine g_goto 4 dX8_asWished_53 rfl ?_
            first | (have e9 : (!decide (σ 77 (16 + 7 * k + 6) = -4) && decide (σ 77 (16 + 7 * k + 6) = σ 77 (16 + 7 * k + 4))) = false := (by first | (simp [h24]; done) | (simp [h40]; done)); simp only [sumF, e9] at ih; exact ih) | (have e9 : (!decide (σ 77 (16 + 7 * k + 6) = -4) && decide (σ 77 (16 + 7 * k + 6) = σ 77 (16 + 7 * k + 4))) = true := (by rw [h40] at h24 ⊢; simp [h24]); simp only [sumF, e9] at ih; exact ih)
          · refine g_iconst (pc2 := 44) dX8_asWished_43 k_iconst_1 rfl ?_
            refine g_goto 48 dX8_asWished_44 rfl ?_
            refine g_iaddN (pc2 := 49) dX8_asWished_48 rfl ?_
            refine g_is1 (pc2 := 50) dX8_asWished_49 (by decide) rfl ?_
            refine g_in2 (pc2 := 53) dX8_asWished_50 (nI_inc _) (by decide) rfl ?_
            refine g_goto 4 dX8_asWished_53 rfl ?_
            first | (have e9 : (!decide (σ 77 (16 + 7 * k + 6) = -4) && decide (σ 77 (16 + 7 * k + 6) = σ 77 (16 + 7 * k + 4))) = false := (by first | (simp [h24]; done) | (simp [h40]; done)); simp only [sumF, e9] at ih; exact ih) | (have e9 : (!decide (σ 77 (16 + 7 * k + 6) = -4) && decide (σ 77 (16 + 7 * k + 6) = σ 77 (16 + 7 * k + 4))) = true := (by rw [h40] at h24 ⊢; simp [h24]); simp only [sumF, e9] at ih; exact ih)
  refine g_iconst (pc2 := 1) dX8_asWished_0 k_iconst_0 rfl ?_
  refine g_is1 (pc2 := 2) dX8_asWished_1 (by decide) rfl ?_
  refine g_iconst (pc2 := 3) dX8_asWished_2 k_iconst_0 rfl ?_
  refine g_is2 (pc2 := 4) dX8_asWished_3 (by decide) rfl ?_
  exact key 0 (Nat.zero_le _)
end
section
/-! the reference: what is only read, told by pure functions of the row -/
def F_route (w : Nat → Int32) (a t : Int32) : Int32 := if hasB a (w 0) && hasB t (w 1) then w (4 + 4 * tN a + tN t) else -1
def F_train (w : Nat → Int32) (i k : Int32) : Int32 := if hasB i (w 2) && hasB k (nI 9) then (if tN k < 7 then w (16 + 7 * tN i + tN k) else if tN k = 7 then pf_fits w (tN i) else nI (pf_hard w (tN i))) else -1
def F_why (w : Nat → Int32) (i t : Int32) : Int32 := if hasB i (w 2) && hasB t (w 1) then nI (pf_why w (tN i) (tN t)) else -1
def F_clash (w : Nat → Int32) (i t j o : Int32) : Int32 := if hasB i (w 2) && hasB j (w 2) && !decide (i = j) && hasB t (w 1) && hasB o (w 1) then (if pf_fit w (tN i) (tN t) && pf_fit w (tN j) (tN o) then nI (pf_kind w (tN i) (tN t) (tN j) (tN o)) else nI 0) else -1
def F_on (w : Nat → Int32) (t m : Int32) : Int32 := if hasB t (w 1) && hasB m (nI 100) then pf_on w t m else -1
def F_taken (w : Nat → Int32) (m : Int32) : Int32 := if hasB m (nI 100) then pf_taken w m else -1
def F_use (w : Nat → Int32) (k x : Int32) : Int32 := if hasB k (nI 2) && hasB x (if k = 0 then w 1 else nI 12) then nI (pf_use w k x) else -1
theorem inB_9 (x : Int32) : inB x (nI 0) (nI 8) = hasB x (nI 9) := inB_has (n := 9) (by decide)
theorem inB_100 (x : Int32) : inB x (nI 0) (nI 99) = hasB x (nI 100) := inB_has (n := 100) (by decide)
theorem inB_2 (x : Int32) : inB x (nI 0) (nI 1) = hasB x (nI 2) := inB_has (n := 2) (by decide)
theorem inB_12 (x : Int32) : inB x (nI 0) (nI 11) = hasB x (nI 12) := inB_has (n := 12) (by decide)
theorem R_m_route (l : lt_L) (d : Nat) (σ : lt_S) {ln T N : Nat} (hw : Wf (σ 77) ln T N) (a t : Int32) : lt_T l (d + 3) mX8_route lt_SA σ [.ref 76, .int a, .int t] (some (F_route (σ 77) a t)) σ := by
  refine lt_T.of [some (.ref 76), some (.int a), some (.int t)] rfl rfl (Nat.le_of_ble_eq_true rfl) ?_
  have hL := hw.1
  have hT := hw.2.1
  refine g_il1 (pc2 := 1) dX8_route_0 rfl ?_
  refine g_iconst (pc2 := 2) dX8_route_1 k_iconst_0 rfl ?_
  refine g_al0 (pc2 := 3) dX8_route_2 rfl ?_
  refine g_getr (pc2 := 6) (by rfl) (by rfl) flX8_7 dX8_route_3 rfl ?_
  refine g_iconst (pc2 := 7) dX8_route_6 k_iconst_0 rfl ?_
  refine g_iald (pc2 := 8) (by rfl) (by omega) (by decide) dX8_route_7 rfl ?_
  refine g_iconst (pc2 := 9) dX8_route_8 k_iconst_1 rfl ?_
  refine g_isub (pc2 := 10) dX8_route_9 rfl ?_
  refine g_cSi (pc2 := 13) (R_m_in l (d + 1) _ _ _ _ _) meX8_in mlX8_58 rfl rfl (by simp) ⟨Nat.le_refl _, Nat.le_refl _⟩ dX8_route_10 rfl ?_
  rw [hL.1, inB_has (by omega)]
  refine g_if_eqB 33 16 dX8_route_13 rfl rfl (fun h13 => ?_) (fun h13 => ?_)
  · refine g_iconst (pc2 := 34) dX8_route_33 k_iconst_m1 rfl ?_
    exact g_iretT dX8_route_34 rfl (Nat.le_refl _) (Nat.le_refl _) (by first | (simp [F_route, hL.1, hT.1, h13, h21, tN_nI (show a < 2 ^ 31 by omega), tN_nI (show t < 2 ^ 31 by omega)]; done) | (simp [F_route, hL.1, h13]; done) | (simp [F_route, h21]; done)) (rfl)
  · refine g_al0 (pc2 := 17) dX8_route_16 rfl ?_
    refine g_il2 (pc2 := 18) dX8_route_17 rfl ?_
    refine g_cVi (pc2 := 21) (R_m_isTrack l d _ _ hT.1 (by omega)) meX8_isTrack mlX8_102 (by rfl) ⟨_, rfl, rfl⟩ rfl rfl (by simp) ⟨Nat.le_refl _, Nat.le_refl _⟩ dX8_route_18 rfl ?_
    refine g_if_eqB 33 24 dX8_route_21 rfl rfl (fun h21 => ?_) (fun h21 => ?_)
    · refine g_iconst (pc2 := 34) dX8_route_33 k_iconst_m1 rfl ?_
      exact g_iretT dX8_route_34 rfl (Nat.le_refl _) (Nat.le_refl _) (by first | (simp [F_route, hL.1, hT.1, h13, h21, tN_nI (show a < 2 ^ 31 by omega), tN_nI (show t < 2 ^ 31 by omega)]; done) | (simp [F_route, hL.1, h13]; done) | (simp [F_route, h21]; done)) (rfl)
    · obtain ⟨a, ha, rfl⟩ := hasB_ix (by omega) h13
      rw [hT.1] at h21
      obtain ⟨t, ht, rfl⟩ := hasB_ix (by omega) h21
      refine g_al0 (pc2 := 25) dX8_route_24 rfl ?_
      refine g_il1 (pc2 := 26) dX8_route_25 rfl ?_
      refine g_il2 (pc2 := 27) dX8_route_26 rfl ?_
      refine g_cVi (pc2 := 30) (R_m_routeOf l (d + 1) _ _ _ (by omega) (by omega)) meX8_routeOf mlX8_106 (by rfl) ⟨_, rfl, rfl⟩ rfl rfl (by simp) ⟨Nat.le_refl _, Nat.le_refl _⟩ dX8_route_27 rfl ?_
      refine g_goto 34 dX8_route_30 rfl ?_
      exact g_iretT dX8_route_34 rfl (Nat.le_refl _) (Nat.le_refl _) (by first | (simp [F_route, hL.1, hT.1, h13, h21, tN_nI (show a < 2 ^ 31 by omega), tN_nI (show t < 2 ^ 31 by omega)]; done) | (simp [F_route, hL.1, h13]; done) | (simp [F_route, h21]; done)) (rfl)
theorem R_m_why (l : lt_L) (d : Nat) (σ : lt_S) {ln T N : Nat} (hw : Wf (σ 77) ln T N) (i t : Int32) : lt_T l (d + 6) mX8_why lt_SA σ [.ref 76, .int i, .int t] (some (F_why (σ 77) i t)) σ := by
  refine lt_T.of [some (.ref 76), some (.int i), some (.int t)] rfl rfl (Nat.le_of_ble_eq_true rfl) ?_
  have hN := hw.2.2.1
  have hT := hw.2.1
  refine g_al0 (pc2 := 1) dX8_why_0 rfl ?_
  refine g_il1 (pc2 := 2) dX8_why_1 rfl ?_
  refine g_cVi (pc2 := 5) (R_m_isTrain l (d + 3) _ _ hN.1 (by omega)) meX8_isTrain mlX8_135 (by rfl) ⟨_, rfl, rfl⟩ rfl rfl (by simp) ⟨Nat.le_refl _, Nat.le_refl _⟩ dX8_why_2 rfl ?_
  refine g_if_eqB 25 8 dX8_why_5 rfl rfl (fun h5 => ?_) (fun h5 => ?_)
  · refine g_iconst (pc2 := 26) dX8_why_25 k_iconst_m1 rfl ?_
    exact g_iretT dX8_why_26 rfl (Nat.le_refl _) (Nat.le_refl _) (by first | (simp [F_why, h5b, h13b, tN_nI (show i < 2 ^ 31 by omega), tN_nI (show t < 2 ^ 31 by omega)]; done) | (simp [F_why, h5]; done) | (simp [F_why, h13]; done)) (rfl)
  · refine g_al0 (pc2 := 9) dX8_why_8 rfl ?_
    refine g_il2 (pc2 := 10) dX8_why_9 rfl ?_
    refine g_cVi (pc2 := 13) (R_m_isTrack l (d + 3) _ _ hT.1 (by omega)) meX8_isTrack mlX8_102 (by rfl) ⟨_, rfl, rfl⟩ rfl rfl (by simp) ⟨Nat.le_refl _, Nat.le_refl _⟩ dX8_why_10 rfl ?_
    refine g_if_eqB 25 16 dX8_why_13 rfl rfl (fun h13 => ?_) (fun h13 => ?_)
    · refine g_iconst (pc2 := 26) dX8_why_25 k_iconst_m1 rfl ?_
      exact g_iretT dX8_why_26 rfl (Nat.le_refl _) (Nat.le_refl _) (by first | (simp [F_why, h5b, h13b, tN_nI (show i < 2 ^ 31 by omega), tN_nI (show t < 2 ^ 31 by omega)]; done) | (simp [F_why, h5]; done) | (simp [F_why, h13]; done)) (rfl)
    · have h5b := h5
      have h13b := h13
      rw [hN.1] at h5
      obtain ⟨i, hi, rfl⟩ := hasB_ix (by omega) h5
      rw [hT.1] at h13
      obtain ⟨t, ht, rfl⟩ := hasB_ix (by omega) h13
      refine g_al0 (pc2 := 17) dX8_why_16 rfl ?_
      refine g_il1 (pc2 := 18) dX8_why_17 rfl ?_
      refine g_il2 (pc2 := 19) dX8_why_18 rfl ?_
      refine g_cVi (pc2 := 22) (R_m_whyNot l d _ hw _ _ (by omega) (by omega)) meX8_whyNot mlX8_132 (by rfl) ⟨_, rfl, rfl⟩ rfl rfl (by simp) ⟨Nat.le_refl _, Nat.le_refl _⟩ dX8_why_19 rfl ?_
      refine g_goto 26 dX8_why_22 rfl ?_
      exact g_iretT dX8_why_26 rfl (Nat.le_refl _) (Nat.le_refl _) (by first | (simp [F_why, h5b, h13b, tN_nI (show i < 2 ^ 31 by omega), tN_nI (show t < 2 ^ 31 by omega)]; done) | (simp [F_why, h5]; done) | (simp [F_why, h13]; done)) (rfl)
theorem R_m_train (l : lt_L) (d : Nat) (σ : lt_S) {ln T N : Nat} (hw : Wf (σ 77) ln T N) (i k : Int32) : lt_T l (d + 7) mX8_train lt_SA σ [.ref 76, .int i, .int k] (some (F_train (σ 77) i k)) σ := by
  refine lt_T.of [some (.ref 76), some (.int i), some (.int k)] rfl rfl (Nat.le_of_ble_eq_true rfl) ?_
  have hN := hw.2.2.1
  have hT := hw.2.1
  refine g_al0 (pc2 := 1) dX8_train_0 rfl ?_
  refine g_il1 (pc2 := 2) dX8_train_1 rfl ?_
  refine g_cVi (pc2 := 5) (R_m_isTrain l (d + 4) _ _ hN.1 (by omega)) meX8_isTrain mlX8_135 (by rfl) ⟨_, rfl, rfl⟩ rfl rfl (by simp) ⟨Nat.le_refl _, Nat.le_refl _⟩ dX8_train_2 rfl ?_
  refine g_if_eqB 18 8 dX8_train_5 rfl rfl (fun h5 => ?_) (fun h5 => ?_)
  · refine g_iconst (pc2 := 19) dX8_train_18 k_iconst_m1 rfl ?_
    exact g_iretT dX8_train_19 rfl (Nat.le_refl _) (Nat.le_refl _) (by first | (simp [F_train, h5]; done) | (simp [F_train, h15]; done) | (simp [F_train, h5b, h15b, tN_nI (show i < 2 ^ 31 by omega), tN_nI (show k < 2 ^ 31 by omega), h23]; done) | (simp [F_train, h5b, h15b, tN_nI (show i < 2 ^ 31 by omega), tN_nI (show k < 2 ^ 31 by omega), show ¬ k < 7 by omega, h36]; done) | (subst h36; simp [F_train, h5b, h15b, tN_nI (show i < 2 ^ 31 by omega), tN_nI (show 7 < 2 ^ 31 by decide)]; done)) (rfl)
  · refine g_il2 (pc2 := 9) dX8_train_8 rfl ?_
    refine g_iconst (pc2 := 10) dX8_train_9 k_iconst_0 rfl ?_
    refine g_bipush (pc2 := 12) dX8_train_10 k_bipush_8 rfl ?_
    refine g_cSi (pc2 := 15) (R_m_in l (d + 5) _ _ _ _ _) meX8_in mlX8_58 rfl rfl (by simp) ⟨Nat.le_refl _, Nat.le_refl _⟩ dX8_train_12 rfl ?_
    rw [inB_9]
    refine g_if_neB 20 18 dX8_train_15 rfl rfl (fun h15 => ?_) (fun h15 => ?_)
    · have h5b := h5
      have h15b := h15
      rw [hN.1] at h5
      obtain ⟨i, hi, rfl⟩ := hasB_ix (by omega) h5
      obtain ⟨k, hk, rfl⟩ := hasB_ix (by omega) h15
      refine g_il2 (pc2 := 21) dX8_train_20 rfl ?_
      refine g_bipush (pc2 := 23) dX8_train_21 k_bipush_7 rfl ?_
      refine g_icmpN_ge 33 26 dX8_train_23 rfl rfl (by omega) (by omega) (fun h23 => ?_) (fun h23 => ?_)
      · refine g_il2 (pc2 := 34) dX8_train_33 rfl ?_
        refine g_bipush (pc2 := 36) dX8_train_34 k_bipush_7 rfl ?_
        refine g_icmpN_ne 47 39 dX8_train_36 rfl rfl (by omega) (by omega) (fun h36 => ?_) (fun h36 => ?_)
        · refine g_al0 (pc2 := 48) dX8_train_47 rfl ?_
          refine g_il1 (pc2 := 49) dX8_train_48 rfl ?_
          refine g_cVi (pc2 := 52) (R_m_hardOf l d _ hw _ (by omega)) meX8_hardOf mlX8_142 (by rfl) ⟨_, rfl, rfl⟩ rfl rfl (by simp) ⟨Nat.le_refl _, Nat.le_refl _⟩ dX8_train_49 rfl ?_
          exact g_iretT dX8_train_52 rfl (Nat.le_refl _) (Nat.le_refl _) (by first | (simp [F_train, h5]; done) | (simp [F_train, h15]; done) | (simp [F_train, h5b, h15b, tN_nI (show i < 2 ^ 31 by omega), tN_nI (show k < 2 ^ 31 by omega), h23]; done) | (simp [F_train, h5b, h15b, tN_nI (show i < 2 ^ 31 by omega), tN_nI (show k < 2 ^ 31 by omega), show ¬ k < 7 by omega, h36]; done) | (subst h36; simp [F_train, h5b, h15b, tN_nI (show i < 2 ^ 31 by omega), tN_nI (show 7 < 2 ^ 31 by decide)]; done)) (rfl)
        · refine g_al0 (pc2 := 40) dX8_train_39 rfl ?_
          refine g_il1 (pc2 := 41) dX8_train_40 rfl ?_
          refine g_cVi (pc2 := 44) (R_m_fits l (d + 2) _ hw _ (by omega)) meX8_fits mlX8_138 (by rfl) ⟨_, rfl, rfl⟩ rfl rfl (by simp) ⟨Nat.le_refl _, Nat.le_refl _⟩ dX8_train_41 rfl ?_
          refine g_goto 52 dX8_train_44 rfl ?_
          exact g_iretT dX8_train_52 rfl (Nat.le_refl _) (Nat.le_refl _) (by first | (simp [F_train, h5]; done) | (simp [F_train, h15]; done) | (simp [F_train, h5b, h15b, tN_nI (show i < 2 ^ 31 by omega), tN_nI (show k < 2 ^ 31 by omega), h23]; done) | (simp [F_train, h5b, h15b, tN_nI (show i < 2 ^ 31 by omega), tN_nI (show k < 2 ^ 31 by omega), show ¬ k < 7 by omega, h36]; done) | (subst h36; simp [F_train, h5b, h15b, tN_nI (show i < 2 ^ 31 by omega), tN_nI (show 7 < 2 ^ 31 by decide)]; done)) (rfl)
      · refine g_al0 (pc2 := 27) dX8_train_26 rfl ?_
        refine g_il1 (pc2 := 28) dX8_train_27 rfl ?_
        refine g_il2 (pc2 := 29) dX8_train_28 rfl ?_
        refine g_cVi (pc2 := 32) (R_m_of l (d + 5) _ _ _ (by omega) (by omega)) meX8_of mlX8_110 (by rfl) ⟨_, rfl, rfl⟩ rfl rfl (by simp) ⟨Nat.le_refl _, Nat.le_refl _⟩ dX8_train_29 rfl ?_
        exact g_iretT dX8_train_32 rfl (Nat.le_refl _) (Nat.le_refl _) (by first | (simp [F_train, h5]; done) | (simp [F_train, h15]; done) | (simp [F_train, h5b, h15b, tN_nI (show i < 2 ^ 31 by omega), tN_nI (show k < 2 ^ 31 by omega), h23]; done) | (simp [F_train, h5b, h15b, tN_nI (show i < 2 ^ 31 by omega), tN_nI (show k < 2 ^ 31 by omega), show ¬ k < 7 by omega, h36]; done) | (subst h36; simp [F_train, h5b, h15b, tN_nI (show i < 2 ^ 31 by omega), tN_nI (show 7 < 2 ^ 31 by decide)]; done)) (rfl)
    · refine g_iconst (pc2 := 19) dX8_train_18 k_iconst_m1 rfl ?_
      exact g_iretT dX8_train_19 rfl (Nat.le_refl _) (Nat.le_refl _) (by first | (simp [F_train, h5]; done) | (simp [F_train, h15]; done) | (simp [F_train, h5b, h15b, tN_nI (show i < 2 ^ 31 by omega), tN_nI (show k < 2 ^ 31 by omega), h23]; done) | (simp [F_train, h5b, h15b, tN_nI (show i < 2 ^ 31 by omega), tN_nI (show k < 2 ^ 31 by omega), show ¬ k < 7 by omega, h36]; done) | (subst h36; simp [F_train, h5b, h15b, tN_nI (show i < 2 ^ 31 by omega), tN_nI (show 7 < 2 ^ 31 by decide)]; done)) (rfl)
theorem R_m_clash (l : lt_L) (d : Nat) (σ : lt_S) {ln T N : Nat} (hw : Wf (σ 77) ln T N) (i t j o : Int32) : lt_T l (d + 4) mX8_clash lt_SA σ [.ref 76, .int i, .int t, .int j, .int o] (some (F_clash (σ 77) i t j o)) σ := by
  refine lt_T.of [some (.ref 76), some (.int i), some (.int t), some (.int j), some (.int o)] rfl rfl (Nat.le_of_ble_eq_true rfl) ?_
  have hN := hw.2.2.1
  have hT := hw.2.1
  refine g_al0 (pc2 := 1) dX8_clash_0 rfl ?_
  refine g_il1 (pc2 := 2) dX8_clash_1 rfl ?_
  refine g_cVi (pc2 := 5) (R_m_isTrain l (d + 1) _ _ hN.1 (by omega)) meX8_isTrain mlX8_135 (by rfl) ⟨_, rfl, rfl⟩ rfl rfl (by simp) ⟨Nat.le_refl _, Nat.le_refl _⟩ dX8_clash_2 rfl ?_
  refine g_if_eqB 38 8 dX8_clash_5 rfl rfl (fun h5 => ?_) (fun h5 => ?_)
  · refine g_iconst (pc2 := 39) dX8_clash_38 k_iconst_m1 rfl ?_
    exact g_iretT dX8_clash_39 rfl (Nat.le_refl _) (Nat.le_refl _) (by first | (simp [F_clash, h5]; done) | (simp [F_clash, h13]; done) | (simp [F_clash, h18]; done) | (simp [F_clash, h26]; done) | (simp [F_clash, h35]; done)) (rfl)
  · refine g_al0 (pc2 := 9) dX8_clash_8 rfl ?_
    refine g_il3 (pc2 := 10) dX8_clash_9 rfl ?_
    refine g_cVi (pc2 := 13) (R_m_isTrain l (d + 1) _ _ hN.1 (by omega)) meX8_isTrain mlX8_135 (by rfl) ⟨_, rfl, rfl⟩ rfl rfl (by simp) ⟨Nat.le_refl _, Nat.le_refl _⟩ dX8_clash_10 rfl ?_
    refine g_if_eqB 38 16 dX8_clash_13 rfl rfl (fun h13 => ?_) (fun h13 => ?_)
    · refine g_iconst (pc2 := 39) dX8_clash_38 k_iconst_m1 rfl ?_
      exact g_iretT dX8_clash_39 rfl (Nat.le_refl _) (Nat.le_refl _) (by first | (simp [F_clash, h5]; done) | (simp [F_clash, h13]; done) | (simp [F_clash, h18]; done) | (simp [F_clash, h26]; done) | (simp [F_clash, h35]; done)) (rfl)
    · refine g_il1 (pc2 := 17) dX8_clash_16 rfl ?_
      refine g_il3 (pc2 := 18) dX8_clash_17 rfl ?_
      refine g_icmp_eq 38 21 dX8_clash_18 rfl rfl (fun h18 => ?_) (fun h18 => ?_)
      · refine g_iconst (pc2 := 39) dX8_clash_38 k_iconst_m1 rfl ?_
        exact g_iretT dX8_clash_39 rfl (Nat.le_refl _) (Nat.le_refl _) (by first | (simp [F_clash, h5]; done) | (simp [F_clash, h13]; done) | (simp [F_clash, h18]; done) | (simp [F_clash, h26]; done) | (simp [F_clash, h35]; done)) (rfl)
      · refine g_al0 (pc2 := 22) dX8_clash_21 rfl ?_
        refine g_il2 (pc2 := 23) dX8_clash_22 rfl ?_
        refine g_cVi (pc2 := 26) (R_m_isTrack l (d + 1) _ _ hT.1 (by omega)) meX8_isTrack mlX8_102 (by rfl) ⟨_, rfl, rfl⟩ rfl rfl (by simp) ⟨Nat.le_refl _, Nat.le_refl _⟩ dX8_clash_23 rfl ?_
        refine g_if_eqB 38 29 dX8_clash_26 rfl rfl (fun h26 => ?_) (fun h26 => ?_)
        · refine g_iconst (pc2 := 39) dX8_clash_38 k_iconst_m1 rfl ?_
          exact g_iretT dX8_clash_39 rfl (Nat.le_refl _) (Nat.le_refl _) (by first | (simp [F_clash, h5]; done) | (simp [F_clash, h13]; done) | (simp [F_clash, h18]; done) | (simp [F_clash, h26]; done) | (simp [F_clash, h35]; done)) (rfl)
        · refine g_al0 (pc2 := 30) dX8_clash_29 rfl ?_
          refine g_il4 (pc2 := 32) dX8_clash_30 rfl ?_
          refine g_cVi (pc2 := 35) (R_m_isTrack l (d + 1) _ _ hT.1 (by omega)) meX8_isTrack mlX8_102 (by rfl) ⟨_, rfl, rfl⟩ rfl rfl (by simp) ⟨Nat.le_refl _, Nat.le_refl _⟩ dX8_clash_32 rfl ?_
          refine g_if_neB 40 38 dX8_clash_35 rfl rfl (fun h35 => ?_) (fun h35 => ?_)
          · have hb := And.intro h5 (And.intro h13 (And.intro h18 (And.intro h26 h35)))
            rw [hN.1] at h5 h13
            rw [hT.1] at h26 h35
            obtain ⟨i, hi, rfl⟩ := hasB_ix (by omega) h5
            obtain ⟨j, hj, rfl⟩ := hasB_ix (by omega) h13
            obtain ⟨t, ht, rfl⟩ := hasB_ix (by omega) h26
            obtain ⟨o, ho, rfl⟩ := hasB_ix (by omega) h35
            have e1 := tN_nI (show i < 2 ^ 31 by omega)
            have e2 := tN_nI (show t < 2 ^ 31 by omega)
            have e3 := tN_nI (show j < 2 ^ 31 by omega)
            have e4 := tN_nI (show o < 2 ^ 31 by omega)
            refine g_al0 (pc2 := 41) dX8_clash_40 rfl ?_
            refine g_il1 (pc2 := 42) dX8_clash_41 rfl ?_
            refine g_il2 (pc2 := 43) dX8_clash_42 rfl ?_
            refine g_cVi (pc2 := 46) (R_m_doesFit l d _ _ _ (hw.ln (by omega)) (by omega)) meX8_doesFit mlX8_129 (by rfl) ⟨_, rfl, rfl⟩ rfl rfl (by simp) ⟨Nat.le_refl _, Nat.le_refl _⟩ dX8_clash_43 rfl ?_
            refine g_if_eqB 71 49 dX8_clash_46 rfl rfl (fun h46 => ?_) (fun h46 => ?_)
            · refine g_iconst (pc2 := 72) dX8_clash_71 k_iconst_0 rfl ?_
              exact g_iretT dX8_clash_72 rfl (Nat.le_refl _) (Nat.le_refl _) (by obtain ⟨b1, b2, b3, b4, b5⟩ := hb; simp only [F_clash, b1, b2, b4, b5, e1, e2, e3, e4]; first | (simp [b3, h46, h56]; done) | (simp [b3, h46]; done)) (rfl)
            · refine g_al0 (pc2 := 50) dX8_clash_49 rfl ?_
              refine g_il3 (pc2 := 51) dX8_clash_50 rfl ?_
              refine g_il4 (pc2 := 53) dX8_clash_51 rfl ?_
              refine g_cVi (pc2 := 56) (R_m_doesFit l d _ _ _ (hw.ln (by omega)) (by omega)) meX8_doesFit mlX8_129 (by rfl) ⟨_, rfl, rfl⟩ rfl rfl (by simp) ⟨Nat.le_refl _, Nat.le_refl _⟩ dX8_clash_53 rfl ?_
              refine g_if_eqB 71 59 dX8_clash_56 rfl rfl (fun h56 => ?_) (fun h56 => ?_)
              · refine g_iconst (pc2 := 72) dX8_clash_71 k_iconst_0 rfl ?_
                exact g_iretT dX8_clash_72 rfl (Nat.le_refl _) (Nat.le_refl _) (by obtain ⟨b1, b2, b3, b4, b5⟩ := hb; simp only [F_clash, b1, b2, b4, b5, e1, e2, e3, e4]; first | (simp [b3, h46, h56]; done) | (simp [b3, h46]; done)) (rfl)
              · refine g_al0 (pc2 := 60) dX8_clash_59 rfl ?_
                refine g_il1 (pc2 := 61) dX8_clash_60 rfl ?_
                refine g_il2 (pc2 := 62) dX8_clash_61 rfl ?_
                refine g_il3 (pc2 := 63) dX8_clash_62 rfl ?_
                refine g_il4 (pc2 := 65) dX8_clash_63 rfl ?_
                refine g_cVi (pc2 := 68) (R_m_clashOf l d _ _ _ _ _ (hw.ln (by omega)) (by omega) (hw.ln (by omega)) (by omega)) meX8_clashOf mlX8_122 (by rfl) ⟨_, rfl, rfl⟩ rfl rfl (by simp) ⟨Nat.le_refl _, Nat.le_refl _⟩ dX8_clash_65 rfl ?_
                refine g_goto 72 dX8_clash_68 rfl ?_
                exact g_iretT dX8_clash_72 rfl (Nat.le_refl _) (Nat.le_refl _) (by obtain ⟨b1, b2, b3, b4, b5⟩ := hb; simp only [F_clash, b1, b2, b4, b5, e1, e2, e3, e4]; first | (simp [b3, h46, h56]; done) | (simp [b3, h46]; done)) (rfl)
          · refine g_iconst (pc2 := 39) dX8_clash_38 k_iconst_m1 rfl ?_
            exact g_iretT dX8_clash_39 rfl (Nat.le_refl _) (Nat.le_refl _) (by first | (simp [F_clash, h5]; done) | (simp [F_clash, h13]; done) | (simp [F_clash, h18]; done) | (simp [F_clash, h26]; done) | (simp [F_clash, h35]; done)) (rfl)
theorem R_m_onTrack (l : lt_L) (d : Nat) (σ : lt_S) {ln T N : Nat} (hw : Wf (σ 77) ln T N) (t m : Int32) : lt_T l (d + 2) mX8_onTrack lt_SA σ [.ref 76, .int t, .int m] (some (pf_on (σ 77) t m)) σ := by
  refine lt_T.of [some (.ref 76), some (.int t), some (.int m), none, none] rfl rfl (Nat.le_of_ble_eq_true rfl) ?_
  have hN := hw.2.2.1
  unfold pf_on
  rw [hw.tr.2.1]
  have key : ∀ k, k ≤ N → lt_g l (d + 2) mX8_onTrack lt_SA σ 5 [some (.ref 76), some (.int t), some (.int m), some (.int (orF (fun i => if decide (σ 77 (16 + 7 * i + 6) = t) && inB m (σ 77 (16 + 7 * i + 2)) (σ 77 (16 + 7 * i + 3)) then nI 1 <<< (nI i &&& 31) else nI 0) k)), some (.int (nI k))] [] (some (orF (fun i => if decide (σ 77 (16 + 7 * i + 6) = t) && inB m (σ 77 (16 + 7 * i + 2)) (σ 77 (16 + 7 * i + 3)) then nI 1 <<< (nI i &&& 31) else nI 0) N)) σ := by
    refine lt_dn N ?_ ?_
    · refine g_il4 (pc2 := 7) dX8_onTrack_5 rfl ?_
      refine g_al0 (pc2 := 8) dX8_onTrack_7 rfl ?_
      refine g_getr (pc2 := 11) (by rfl) (by rfl) flX8_7 dX8_onTrack_8 rfl ?_
      refine g_iconst (pc2 := 12) dX8_onTrack_11 k_iconst_2 rfl ?_
      refine g_iald (pc2 := 13) (by rfl) (by omega) (by decide) dX8_onTrack_12 rfl ?_
      rw [hN.1]
      refine g_icmpN_ge 66 16 dX8_onTrack_13 rfl rfl (by omega) (by omega) (fun h13 => ?_) (fun h13 => ?_)
      · refine g_il3 (pc2 := 67) dX8_onTrack_66 rfl ?_
        exact g_iretT dX8_onTrack_67 rfl (Nat.le_refl _) (Nat.le_refl _) (rfl) (rfl)
      · omega
    · intro k hk ih
      refine g_il4 (pc2 := 7) dX8_onTrack_5 rfl ?_
      refine g_al0 (pc2 := 8) dX8_onTrack_7 rfl ?_
      refine g_getr (pc2 := 11) (by rfl) (by rfl) flX8_7 dX8_onTrack_8 rfl ?_
      refine g_iconst (pc2 := 12) dX8_onTrack_11 k_iconst_2 rfl ?_
      refine g_iald (pc2 := 13) (by rfl) (by omega) (by decide) dX8_onTrack_12 rfl ?_
      rw [hN.1]
      refine g_icmpN_ge 66 16 dX8_onTrack_13 rfl rfl (by omega) (by omega) (fun h13 => ?_) (fun h13 => ?_)
      · omega
      · refine g_il3 (pc2 := 17) dX8_onTrack_16 rfl ?_
        refine g_al0 (pc2 := 18) dX8_onTrack_17 rfl ?_
        refine g_il4 (pc2 := 20) dX8_onTrack_18 rfl ?_
        refine g_bipush (pc2 := 22) dX8_onTrack_20 k_bipush_6 rfl ?_
        refine g_cVi (pc2 := 25) (R_m_of l d _ _ _ (by omega) (by decide)) meX8_of mlX8_110 (by rfl) ⟨_, rfl, rfl⟩ rfl rfl (by simp) ⟨Nat.le_refl _, Nat.le_refl _⟩ dX8_onTrack_22 rfl ?_
        refine g_il1 (pc2 := 26) dX8_onTrack_25 rfl ?_
        refine g_icmp_ne 57 29 dX8_onTrack_26 rfl rfl (fun h26 => ?_) (fun h26 => ?_)
        · refine g_iconst (pc2 := 58) dX8_onTrack_57 k_iconst_0 rfl ?_
          refine g_ior (pc2 := 59) dX8_onTrack_58 rfl ?_
          refine g_is3 (pc2 := 60) dX8_onTrack_59 (by decide) rfl ?_
          refine g_in4 (pc2 := 63) dX8_onTrack_60 (nI_inc _) (by decide) rfl ?_
          refine g_goto 5 dX8_onTrack_63 rfl ?_
          simp only [orF] at ih
          first | (rw [if_pos (by simp [h26, h47])] at ih; exact ih) | (rw [if_neg (by first | (simp [h47]; done) | (simp [h26]; done))] at ih; exact ih)
        · refine g_il2 (pc2 := 30) dX8_onTrack_29 rfl ?_
          refine g_al0 (pc2 := 31) dX8_onTrack_30 rfl ?_
          refine g_il4 (pc2 := 33) dX8_onTrack_31 rfl ?_
          refine g_iconst (pc2 := 34) dX8_onTrack_33 k_iconst_2 rfl ?_
          refine g_cVi (pc2 := 37) (R_m_of l d _ _ _ (by omega) (by decide)) meX8_of mlX8_110 (by rfl) ⟨_, rfl, rfl⟩ rfl rfl (by simp) ⟨Nat.le_refl _, Nat.le_refl _⟩ dX8_onTrack_34 rfl ?_
          refine g_al0 (pc2 := 38) dX8_onTrack_37 rfl ?_
          refine g_il4 (pc2 := 40) dX8_onTrack_38 rfl ?_
          refine g_iconst (pc2 := 41) dX8_onTrack_40 k_iconst_3 rfl ?_
          refine g_cVi (pc2 := 44) (R_m_of l d _ _ _ (by omega) (by decide)) meX8_of mlX8_110 (by rfl) ⟨_, rfl, rfl⟩ rfl rfl (by simp) ⟨Nat.le_refl _, Nat.le_refl _⟩ dX8_onTrack_41 rfl ?_
          refine g_cSi (pc2 := 47) (R_m_in l d _ _ _ _ _) meX8_in mlX8_58 rfl rfl (by simp) ⟨Nat.le_refl _, Nat.le_refl _⟩ dX8_onTrack_44 rfl ?_
          refine g_if_eqB 57 50 dX8_onTrack_47 rfl rfl (fun h47 => ?_) (fun h47 => ?_)
          · refine g_iconst (pc2 := 58) dX8_onTrack_57 k_iconst_0 rfl ?_
            refine g_ior (pc2 := 59) dX8_onTrack_58 rfl ?_
            refine g_is3 (pc2 := 60) dX8_onTrack_59 (by decide) rfl ?_
            refine g_in4 (pc2 := 63) dX8_onTrack_60 (nI_inc _) (by decide) rfl ?_
            refine g_goto 5 dX8_onTrack_63 rfl ?_
            simp only [orF] at ih
            first | (rw [if_pos (by simp [h26, h47])] at ih; exact ih) | (rw [if_neg (by first | (simp [h47]; done) | (simp [h26]; done))] at ih; exact ih)
          · refine g_iconst (pc2 := 51) dX8_onTrack_50 k_iconst_1 rfl ?_
            refine g_il4 (pc2 := 53) dX8_onTrack_51 rfl ?_
            refine g_ishl (pc2 := 54) dX8_onTrack_53 rfl ?_
            refine g_goto 58 dX8_onTrack_54 rfl ?_
            refine g_ior (pc2 := 59) dX8_onTrack_58 rfl ?_
            refine g_is3 (pc2 := 60) dX8_onTrack_59 (by decide) rfl ?_
            refine g_in4 (pc2 := 63) dX8_onTrack_60 (nI_inc _) (by decide) rfl ?_
            refine g_goto 5 dX8_onTrack_63 rfl ?_
            simp only [orF] at ih
            first | (rw [if_pos (by simp [h26, h47])] at ih; exact ih) | (rw [if_neg (by first | (simp [h47]; done) | (simp [h26]; done))] at ih; exact ih)
  refine g_iconst (pc2 := 1) dX8_onTrack_0 k_iconst_0 rfl ?_
  refine g_is3 (pc2 := 2) dX8_onTrack_1 (by decide) rfl ?_
  refine g_iconst (pc2 := 3) dX8_onTrack_2 k_iconst_0 rfl ?_
  refine g_is4 (pc2 := 5) dX8_onTrack_3 (by decide) rfl ?_
  exact key 0 (Nat.zero_le _)
theorem or_assoc32 (a b c : Int32) : a ||| b ||| c = a ||| (b ||| c) := Int32.or_assoc a b c
theorem R_m_takenIn (l : lt_L) (d : Nat) (σ : lt_S) {ln T N : Nat} (hw : Wf (σ 77) ln T N) (m : Int32) : lt_T l (d + 3) mX8_takenIn lt_SA σ [.ref 76, .int m] (some (pf_taken (σ 77) m)) σ := by
  refine lt_T.of [some (.ref 76), some (.int m), none, none, none] rfl rfl (Nat.le_of_ble_eq_true rfl) ?_
  have hN := hw.2.2.1
  have hT := hw.2.1
  unfold pf_taken
  rw [hw.tr.2.1]
  have key : ∀ k, k ≤ N → ∀ z : Option Value, lt_g l (d + 3) mX8_takenIn lt_SA σ 4 [some (.ref 76), some (.int m), some (.int (orF (pf_takenI (σ 77) m) k)), some (.int (nI k)), z] [] (some (orF (pf_takenI (σ 77) m) N)) σ := by
    refine lt_dn N ?_ ?_
    · intro z
      refine g_il3 (pc2 := 5) dX8_takenIn_4 rfl ?_
      refine g_al0 (pc2 := 6) dX8_takenIn_5 rfl ?_
      refine g_getr (pc2 := 9) (by rfl) (by rfl) flX8_7 dX8_takenIn_6 rfl ?_
      refine g_iconst (pc2 := 10) dX8_takenIn_9 k_iconst_2 rfl ?_
      refine g_iald (pc2 := 11) (by rfl) (by omega) (by decide) dX8_takenIn_10 rfl ?_
      rw [hN.1]
      refine g_icmpN_ge 106 14 dX8_takenIn_11 rfl rfl (by omega) (by omega) (fun h11 => ?_) (fun h11 => ?_)
      · refine g_il2 (pc2 := 107) dX8_takenIn_106 rfl ?_
        exact g_iretT dX8_takenIn_107 rfl (Nat.le_refl _) (Nat.le_refl _) (rfl) (rfl)
      · omega
    · intro k hk ih z
      have hkk := hw.ln hk
      have fin : ∀ (x : Int32) (z : Option Value), x = pf_takenI (σ 77) m k → lt_g l (d + 3) mX8_takenIn lt_SA σ 4 [some (.ref 76), some (.int m), some (.int (orF (pf_takenI (σ 77) m) k ||| x)), some (.int (nI (k + 1))), z] [] (some (orF (pf_takenI (σ 77) m) N)) σ := by
        intro x z hx
        subst hx
        exact ih z
      by_cases hp : σ 77 (16 + 7 * k + 6) = -4
      · refine g_il3 (pc2 := 5) dX8_takenIn_4 rfl ?_
        refine g_al0 (pc2 := 6) dX8_takenIn_5 rfl ?_
        refine g_getr (pc2 := 9) (by rfl) (by rfl) flX8_7 dX8_takenIn_6 rfl ?_
        refine g_iconst (pc2 := 10) dX8_takenIn_9 k_iconst_2 rfl ?_
        refine g_iald (pc2 := 11) (by rfl) (by omega) (by decide) dX8_takenIn_10 rfl ?_
        rw [hN.1]
        refine g_icmpN_ge 106 14 dX8_takenIn_11 rfl rfl (by omega) (by omega) (fun h11 => ?_) (fun h11 => ?_)
        · omega
        · refine g_al0 (pc2 := 15) dX8_takenIn_14 rfl ?_
          refine g_il3 (pc2 := 16) dX8_takenIn_15 rfl ?_
          refine g_bipush (pc2 := 18) dX8_takenIn_16 k_bipush_6 rfl ?_
          refine g_cVi (pc2 := 21) (R_m_of l (d + 1) _ _ _ (by omega) (by decide)) meX8_of mlX8_110 (by rfl) ⟨_, rfl, rfl⟩ rfl rfl (by simp) ⟨Nat.le_refl _, Nat.le_refl _⟩ dX8_takenIn_18 rfl ?_
          refine g_is4 (pc2 := 23) dX8_takenIn_21 (by decide) rfl ?_
          refine g_il4 (pc2 := 25) dX8_takenIn_23 rfl ?_
          refine g_bipush (pc2 := 27) dX8_takenIn_25 k_bipush_m4 rfl ?_
          refine g_icmp_eq 100 30 dX8_takenIn_27 rfl rfl (fun h27 => ?_) (fun h27 => ?_)
          · refine g_in3 (pc2 := 103) dX8_takenIn_100 (nI_inc _) (by decide) rfl ?_
            refine g_goto 4 dX8_takenIn_103 rfl ?_
            have f9 := fin (nI 0) (some (.int (σ 77 (16 + 7 * k + 6)))) (by simp [pf_takenI, hp])
            rw [or_0] at f9
            exact f9
          · exact absurd hp h27
      · obtain ⟨o, ho1, ho2, ho3⟩ := hw.pl hk hp
        refine g_il3 (pc2 := 5) dX8_takenIn_4 rfl ?_
        refine g_al0 (pc2 := 6) dX8_takenIn_5 rfl ?_
        refine g_getr (pc2 := 9) (by rfl) (by rfl) flX8_7 dX8_takenIn_6 rfl ?_
        refine g_iconst (pc2 := 10) dX8_takenIn_9 k_iconst_2 rfl ?_
        refine g_iald (pc2 := 11) (by rfl) (by omega) (by decide) dX8_takenIn_10 rfl ?_
        rw [hN.1]
        refine g_icmpN_ge 106 14 dX8_takenIn_11 rfl rfl (by omega) (by omega) (fun h11 => ?_) (fun h11 => ?_)
        · omega
        · refine g_al0 (pc2 := 15) dX8_takenIn_14 rfl ?_
          refine g_il3 (pc2 := 16) dX8_takenIn_15 rfl ?_
          refine g_bipush (pc2 := 18) dX8_takenIn_16 k_bipush_6 rfl ?_
          refine g_cVi (pc2 := 21) (R_m_of l (d + 1) _ _ _ (by omega) (by decide)) meX8_of mlX8_110 (by rfl) ⟨_, rfl, rfl⟩ rfl rfl (by simp) ⟨Nat.le_refl _, Nat.le_refl _⟩ dX8_takenIn_18 rfl ?_
          rw [ho2]
          refine g_is4 (pc2 := 23) dX8_takenIn_21 (by decide) rfl ?_
          refine g_il4 (pc2 := 25) dX8_takenIn_23 rfl ?_
          refine g_bipush (pc2 := 27) dX8_takenIn_25 k_bipush_m4 rfl ?_
          refine g_icmp_eq 100 30 dX8_takenIn_27 rfl rfl (fun h27 => ?_) (fun h27 => ?_)
          · exact absurd h27 (m4_ne (by omega))
          · refine g_il2 (pc2 := 31) dX8_takenIn_30 rfl ?_
            refine g_il1 (pc2 := 32) dX8_takenIn_31 rfl ?_
            refine g_al0 (pc2 := 33) dX8_takenIn_32 rfl ?_
            refine g_il3 (pc2 := 34) dX8_takenIn_33 rfl ?_
            refine g_iconst (pc2 := 35) dX8_takenIn_34 k_iconst_2 rfl ?_
            refine g_cVi (pc2 := 38) (R_m_of l (d + 1) _ _ _ (by omega) (by decide)) meX8_of mlX8_110 (by rfl) ⟨_, rfl, rfl⟩ rfl rfl (by simp) ⟨Nat.le_refl _, Nat.le_refl _⟩ dX8_takenIn_35 rfl ?_
            refine g_iconst (pc2 := 39) dX8_takenIn_38 k_iconst_1 rfl ?_
            refine g_isub (pc2 := 40) dX8_takenIn_39 rfl ?_
            refine g_al0 (pc2 := 41) dX8_takenIn_40 rfl ?_
            refine g_il3 (pc2 := 42) dX8_takenIn_41 rfl ?_
            refine g_iconst (pc2 := 43) dX8_takenIn_42 k_iconst_2 rfl ?_
            refine g_cVi (pc2 := 46) (R_m_of l (d + 1) _ _ _ (by omega) (by decide)) meX8_of mlX8_110 (by rfl) ⟨_, rfl, rfl⟩ rfl rfl (by simp) ⟨Nat.le_refl _, Nat.le_refl _⟩ dX8_takenIn_43 rfl ?_
            refine g_cSi (pc2 := 49) (R_m_in l (d + 1) _ _ _ _ _) meX8_in mlX8_58 rfl rfl (by simp) ⟨Nat.le_refl _, Nat.le_refl _⟩ dX8_takenIn_46 rfl ?_
            refine g_if_eqB 62 52 dX8_takenIn_49 rfl rfl (fun h49 => ?_) (fun h49 => ?_)
            · refine g_iconst (pc2 := 63) dX8_takenIn_62 k_iconst_0 rfl ?_
              refine g_ior (pc2 := 64) dX8_takenIn_63 rfl ?_
              refine g_is2 (pc2 := 65) dX8_takenIn_64 (by decide) rfl ?_
              refine g_il2 (pc2 := 66) dX8_takenIn_65 rfl ?_
              refine g_il1 (pc2 := 67) dX8_takenIn_66 rfl ?_
              refine g_al0 (pc2 := 68) dX8_takenIn_67 rfl ?_
              refine g_il3 (pc2 := 69) dX8_takenIn_68 rfl ?_
              refine g_iconst (pc2 := 70) dX8_takenIn_69 k_iconst_3 rfl ?_
              refine g_cVi (pc2 := 73) (R_m_of l (d + 1) _ _ _ (by omega) (by decide)) meX8_of mlX8_110 (by rfl) ⟨_, rfl, rfl⟩ rfl rfl (by simp) ⟨Nat.le_refl _, Nat.le_refl _⟩ dX8_takenIn_70 rfl ?_
              refine g_al0 (pc2 := 74) dX8_takenIn_73 rfl ?_
              refine g_il3 (pc2 := 75) dX8_takenIn_74 rfl ?_
              refine g_iconst (pc2 := 76) dX8_takenIn_75 k_iconst_3 rfl ?_
              refine g_cVi (pc2 := 79) (R_m_of l (d + 1) _ _ _ (by omega) (by decide)) meX8_of mlX8_110 (by rfl) ⟨_, rfl, rfl⟩ rfl rfl (by simp) ⟨Nat.le_refl _, Nat.le_refl _⟩ dX8_takenIn_76 rfl ?_
              refine g_iconst (pc2 := 80) dX8_takenIn_79 k_iconst_1 rfl ?_
              refine g_iadd (pc2 := 81) dX8_takenIn_80 rfl ?_
              refine g_cSi (pc2 := 84) (R_m_in l (d + 1) _ _ _ _ _) meX8_in mlX8_58 rfl rfl (by simp) ⟨Nat.le_refl _, Nat.le_refl _⟩ dX8_takenIn_81 rfl ?_
              refine g_if_eqB 97 87 dX8_takenIn_84 rfl rfl (fun h84 => ?_) (fun h84 => ?_)
              · refine g_iconst (pc2 := 98) dX8_takenIn_97 k_iconst_0 rfl ?_
                refine g_ior (pc2 := 99) dX8_takenIn_98 rfl ?_
                refine g_is2 (pc2 := 100) dX8_takenIn_99 (by decide) rfl ?_
                refine g_in3 (pc2 := 103) dX8_takenIn_100 (nI_inc _) (by decide) rfl ?_
                refine g_goto 4 dX8_takenIn_103 rfl ?_
                rw [or_assoc32]
                refine fin _ _ ?_
                simp [pf_takenI, ho2, m4_ne (show o < 2 ^ 31 by omega), tN_nI (show o < 2 ^ 31 by omega), h49, h84]
              · refine g_al0 (pc2 := 88) dX8_takenIn_87 rfl ?_
                refine g_il3 (pc2 := 89) dX8_takenIn_88 rfl ?_
                refine g_il4 (pc2 := 91) dX8_takenIn_89 rfl ?_
                refine g_cVi (pc2 := 94) (R_m_out' l d _ _ _ hkk (by omega)) meX8_wayOut mlX8_116 (by rfl) ⟨_, rfl, rfl⟩ rfl rfl (by simp) ⟨Nat.le_refl _, Nat.le_refl _⟩ dX8_takenIn_91 rfl ?_
                refine g_goto 98 dX8_takenIn_94 rfl ?_
                refine g_ior (pc2 := 99) dX8_takenIn_98 rfl ?_
                refine g_is2 (pc2 := 100) dX8_takenIn_99 (by decide) rfl ?_
                refine g_in3 (pc2 := 103) dX8_takenIn_100 (nI_inc _) (by decide) rfl ?_
                refine g_goto 4 dX8_takenIn_103 rfl ?_
                rw [or_assoc32]
                refine fin _ _ ?_
                simp [pf_takenI, ho2, m4_ne (show o < 2 ^ 31 by omega), tN_nI (show o < 2 ^ 31 by omega), h49, h84]
            · refine g_al0 (pc2 := 53) dX8_takenIn_52 rfl ?_
              refine g_il3 (pc2 := 54) dX8_takenIn_53 rfl ?_
              refine g_il4 (pc2 := 56) dX8_takenIn_54 rfl ?_
              refine g_cVi (pc2 := 59) (R_m_in' l d _ _ _ hkk (by omega)) meX8_wayIn mlX8_113 (by rfl) ⟨_, rfl, rfl⟩ rfl rfl (by simp) ⟨Nat.le_refl _, Nat.le_refl _⟩ dX8_takenIn_56 rfl ?_
              refine g_goto 63 dX8_takenIn_59 rfl ?_
              refine g_ior (pc2 := 64) dX8_takenIn_63 rfl ?_
              refine g_is2 (pc2 := 65) dX8_takenIn_64 (by decide) rfl ?_
              refine g_il2 (pc2 := 66) dX8_takenIn_65 rfl ?_
              refine g_il1 (pc2 := 67) dX8_takenIn_66 rfl ?_
              refine g_al0 (pc2 := 68) dX8_takenIn_67 rfl ?_
              refine g_il3 (pc2 := 69) dX8_takenIn_68 rfl ?_
              refine g_iconst (pc2 := 70) dX8_takenIn_69 k_iconst_3 rfl ?_
              refine g_cVi (pc2 := 73) (R_m_of l (d + 1) _ _ _ (by omega) (by decide)) meX8_of mlX8_110 (by rfl) ⟨_, rfl, rfl⟩ rfl rfl (by simp) ⟨Nat.le_refl _, Nat.le_refl _⟩ dX8_takenIn_70 rfl ?_
              refine g_al0 (pc2 := 74) dX8_takenIn_73 rfl ?_
              refine g_il3 (pc2 := 75) dX8_takenIn_74 rfl ?_
              refine g_iconst (pc2 := 76) dX8_takenIn_75 k_iconst_3 rfl ?_
              refine g_cVi (pc2 := 79) (R_m_of l (d + 1) _ _ _ (by omega) (by decide)) meX8_of mlX8_110 (by rfl) ⟨_, rfl, rfl⟩ rfl rfl (by simp) ⟨Nat.le_refl _, Nat.le_refl _⟩ dX8_takenIn_76 rfl ?_
              refine g_iconst (pc2 := 80) dX8_takenIn_79 k_iconst_1 rfl ?_
              refine g_iadd (pc2 := 81) dX8_takenIn_80 rfl ?_
              refine g_cSi (pc2 := 84) (R_m_in l (d + 1) _ _ _ _ _) meX8_in mlX8_58 rfl rfl (by simp) ⟨Nat.le_refl _, Nat.le_refl _⟩ dX8_takenIn_81 rfl ?_
              refine g_if_eqB 97 87 dX8_takenIn_84 rfl rfl (fun h84 => ?_) (fun h84 => ?_)
              · refine g_iconst (pc2 := 98) dX8_takenIn_97 k_iconst_0 rfl ?_
                refine g_ior (pc2 := 99) dX8_takenIn_98 rfl ?_
                refine g_is2 (pc2 := 100) dX8_takenIn_99 (by decide) rfl ?_
                refine g_in3 (pc2 := 103) dX8_takenIn_100 (nI_inc _) (by decide) rfl ?_
                refine g_goto 4 dX8_takenIn_103 rfl ?_
                rw [or_assoc32]
                refine fin _ _ ?_
                simp [pf_takenI, ho2, m4_ne (show o < 2 ^ 31 by omega), tN_nI (show o < 2 ^ 31 by omega), h49, h84]
              · refine g_al0 (pc2 := 88) dX8_takenIn_87 rfl ?_
                refine g_il3 (pc2 := 89) dX8_takenIn_88 rfl ?_
                refine g_il4 (pc2 := 91) dX8_takenIn_89 rfl ?_
                refine g_cVi (pc2 := 94) (R_m_out' l d _ _ _ hkk (by omega)) meX8_wayOut mlX8_116 (by rfl) ⟨_, rfl, rfl⟩ rfl rfl (by simp) ⟨Nat.le_refl _, Nat.le_refl _⟩ dX8_takenIn_91 rfl ?_
                refine g_goto 98 dX8_takenIn_94 rfl ?_
                refine g_ior (pc2 := 99) dX8_takenIn_98 rfl ?_
                refine g_is2 (pc2 := 100) dX8_takenIn_99 (by decide) rfl ?_
                refine g_in3 (pc2 := 103) dX8_takenIn_100 (nI_inc _) (by decide) rfl ?_
                refine g_goto 4 dX8_takenIn_103 rfl ?_
                rw [or_assoc32]
                refine fin _ _ ?_
                simp [pf_takenI, ho2, m4_ne (show o < 2 ^ 31 by omega), tN_nI (show o < 2 ^ 31 by omega), h49, h84]
  refine g_iconst (pc2 := 1) dX8_takenIn_0 k_iconst_0 rfl ?_
  refine g_is2 (pc2 := 2) dX8_takenIn_1 (by decide) rfl ?_
  refine g_iconst (pc2 := 3) dX8_takenIn_2 k_iconst_0 rfl ?_
  refine g_is3 (pc2 := 4) dX8_takenIn_3 (by decide) rfl ?_
  exact key 0 (Nat.zero_le _) _
theorem R_m_on (l : lt_L) (d : Nat) (σ : lt_S) {ln T N : Nat} (hw : Wf (σ 77) ln T N) (t m : Int32) : lt_T l (d + 3) mX8_on lt_SA σ [.ref 76, .int t, .int m] (some (F_on (σ 77) t m)) σ := by
  refine lt_T.of [some (.ref 76), some (.int t), some (.int m)] rfl rfl (Nat.le_of_ble_eq_true rfl) ?_
  have hT := hw.2.1
  refine g_al0 (pc2 := 1) dX8_on_0 rfl ?_
  refine g_il1 (pc2 := 2) dX8_on_1 rfl ?_
  refine g_cVi (pc2 := 5) (R_m_isTrack l d _ _ hT.1 (by omega)) meX8_isTrack mlX8_102 (by rfl) ⟨_, rfl, rfl⟩ rfl rfl (by simp) ⟨Nat.le_refl _, Nat.le_refl _⟩ dX8_on_2 rfl ?_
  refine g_if_eqB 27 8 dX8_on_5 rfl rfl (fun h5 => ?_) (fun h5 => ?_)
  · refine g_iconst (pc2 := 28) dX8_on_27 k_iconst_m1 rfl ?_
    exact g_iretT dX8_on_28 rfl (Nat.le_refl _) (Nat.le_refl _) (by first | (simp [F_on, h5, h15]; done) | (simp [F_on, h5]; done)) (rfl)
  · refine g_il2 (pc2 := 9) dX8_on_8 rfl ?_
    refine g_iconst (pc2 := 10) dX8_on_9 k_iconst_0 rfl ?_
    refine g_bipush (pc2 := 12) dX8_on_10 k_bipush_99 rfl ?_
    refine g_cSi (pc2 := 15) (R_m_in l (d + 1) _ _ _ _ _) meX8_in mlX8_58 rfl rfl (by simp) ⟨Nat.le_refl _, Nat.le_refl _⟩ dX8_on_12 rfl ?_
    rw [inB_100]
    refine g_if_eqB 27 18 dX8_on_15 rfl rfl (fun h15 => ?_) (fun h15 => ?_)
    · refine g_iconst (pc2 := 28) dX8_on_27 k_iconst_m1 rfl ?_
      exact g_iretT dX8_on_28 rfl (Nat.le_refl _) (Nat.le_refl _) (by first | (simp [F_on, h5, h15]; done) | (simp [F_on, h5]; done)) (rfl)
    · refine g_al0 (pc2 := 19) dX8_on_18 rfl ?_
      refine g_il1 (pc2 := 20) dX8_on_19 rfl ?_
      refine g_il2 (pc2 := 21) dX8_on_20 rfl ?_
      refine g_cVi (pc2 := 24) (R_m_onTrack l d _ hw _ _) meX8_onTrack mlX8_193 (by rfl) ⟨_, rfl, rfl⟩ rfl rfl (by simp) ⟨Nat.le_refl _, Nat.le_refl _⟩ dX8_on_21 rfl ?_
      refine g_goto 28 dX8_on_24 rfl ?_
      exact g_iretT dX8_on_28 rfl (Nat.le_refl _) (Nat.le_refl _) (by first | (simp [F_on, h5, h15]; done) | (simp [F_on, h5]; done)) (rfl)
theorem R_m_taken (l : lt_L) (d : Nat) (σ : lt_S) {ln T N : Nat} (hw : Wf (σ 77) ln T N) (m : Int32) : lt_T l (d + 4) mX8_taken lt_SA σ [.ref 76, .int m] (some (F_taken (σ 77) m)) σ := by
  refine lt_T.of [some (.ref 76), some (.int m)] rfl rfl (Nat.le_of_ble_eq_true rfl) ?_
  refine g_il1 (pc2 := 1) dX8_taken_0 rfl ?_
  refine g_iconst (pc2 := 2) dX8_taken_1 k_iconst_0 rfl ?_
  refine g_bipush (pc2 := 4) dX8_taken_2 k_bipush_99 rfl ?_
  refine g_cSi (pc2 := 7) (R_m_in l (d + 2) _ _ _ _ _) meX8_in mlX8_58 rfl rfl (by simp) ⟨Nat.le_refl _, Nat.le_refl _⟩ dX8_taken_4 rfl ?_
  rw [inB_100]
  refine g_if_eqB 18 10 dX8_taken_7 rfl rfl (fun h7 => ?_) (fun h7 => ?_)
  · refine g_iconst (pc2 := 19) dX8_taken_18 k_iconst_m1 rfl ?_
    exact g_iretT dX8_taken_19 rfl (Nat.le_refl _) (Nat.le_refl _) (by simp [F_taken, h7]) (rfl)
  · refine g_al0 (pc2 := 11) dX8_taken_10 rfl ?_
    refine g_il1 (pc2 := 12) dX8_taken_11 rfl ?_
    refine g_cVi (pc2 := 15) (R_m_takenIn l d _ hw _) meX8_takenIn mlX8_196 (by rfl) ⟨_, rfl, rfl⟩ rfl rfl (by simp) ⟨Nat.le_refl _, Nat.le_refl _⟩ dX8_taken_12 rfl ?_
    refine g_goto 19 dX8_taken_15 rfl ?_
    exact g_iretT dX8_taken_19 rfl (Nat.le_refl _) (Nat.le_refl _) (by simp [F_taken, h7]) (rfl)
theorem and_1 (x : Int32) : x &&& nI 1 = nI (if x &&& nI 1 = nI 1 then 1 else 0) := by
  obtain ⟨j, hj, e⟩ := pk_andE x (m := nI 1) 1 (by decide)
  rw [e]
  rcases (show j = 0 ∨ j = 1 by omega) with rfl | rfl
  · rw [if_neg (by decide)]
  · rw [if_pos rfl]
theorem R_m_use (l : lt_L) (d : Nat) (σ : lt_S) {ln T N : Nat} (hw : Wf (σ 77) ln T N) (a x : Int32) : lt_T l (d + 4) mX8_use lt_SA σ [.ref 76, .int a, .int x] (some (F_use (σ 77) a x)) σ := by
  refine lt_T.of [some (.ref 76), some (.int a), some (.int x), none, none] rfl rfl (Nat.le_of_ble_eq_true rfl) ?_
  have hT := hw.2.1
  generalize hr : some (F_use (σ 77) a x) = r
  have fin : hasB a (nI 2) = true → hasB x (if a = 0 then σ 77 1 else nI 12) = true → lt_g l (d + 4) mX8_use lt_SA σ 36 [some (.ref 76), some (.int a), some (.int x), none, none] [] r σ := by
    intro ha hx
    have hr2 : some (nI (pf_use (σ 77) a x)) = r := by rw [← hr]; unfold F_use; rw [ha, hx]; rfl
    clear hr
    subst hr2
    have key : ∀ k, k ≤ 100 → lt_g l (d + 4) mX8_use lt_SA σ 41 [some (.ref 76), some (.int a), some (.int x), some (.int (nI (sumF (pf_useB (σ 77) a x) k))), some (.int (nI k))] [] (some (nI (pf_use (σ 77) a x))) σ := by
      refine lt_dn 100 ?_ ?_
      · refine g_il4 (pc2 := 43) dX8_use_41 rfl ?_
        refine g_bipush (pc2 := 45) dX8_use_43 k_bipush_100 rfl ?_
        refine g_icmpN_ge 89 48 dX8_use_45 rfl rfl (by omega) (by omega) (fun h45 => ?_) (fun h45 => ?_)
        · refine g_il3 (pc2 := 90) dX8_use_89 rfl ?_
          exact g_iretT dX8_use_90 rfl (Nat.le_refl _) (Nat.le_refl _) (rfl) (rfl)
        · omega
      · intro k hk ih
        refine g_il4 (pc2 := 43) dX8_use_41 rfl ?_
        refine g_bipush (pc2 := 45) dX8_use_43 k_bipush_100 rfl ?_
        refine g_icmpN_ge 89 48 dX8_use_45 rfl rfl (by omega) (by omega) (fun h45 => ?_) (fun h45 => ?_)
        · omega
        · refine g_il3 (pc2 := 49) dX8_use_48 rfl ?_
          refine g_il1 (pc2 := 50) dX8_use_49 rfl ?_
          refine g_if_ne 71 53 dX8_use_50 rfl rfl (fun h50 => ?_) (fun h50 => ?_)
          · refine g_al0 (pc2 := 72) dX8_use_71 rfl ?_
            refine g_il4 (pc2 := 74) dX8_use_72 rfl ?_
            refine g_cVi (pc2 := 77) (R_m_takenIn l d _ hw _) meX8_takenIn mlX8_196 (by rfl) ⟨_, rfl, rfl⟩ rfl rfl (by simp) ⟨Nat.le_refl _, Nat.le_refl _⟩ dX8_use_74 rfl ?_
            refine g_il2 (pc2 := 78) dX8_use_77 rfl ?_
            refine g_ishr (pc2 := 79) dX8_use_78 rfl ?_
            refine g_iconst (pc2 := 80) dX8_use_79 k_iconst_1 rfl ?_
            refine g_iand (pc2 := 81) dX8_use_80 rfl ?_
            rw [and_1]
            refine g_iaddN (pc2 := 82) dX8_use_81 rfl ?_
            refine g_is3 (pc2 := 83) dX8_use_82 (by decide) rfl ?_
            refine g_in4 (pc2 := 86) dX8_use_83 (nI_inc _) (by decide) rfl ?_
            refine g_goto 41 dX8_use_86 rfl ?_
            have e9 : (if pf_useB (σ 77) a x k = true then 1 else 0) = (if pf_taken (σ 77) (nI k) >>> (x &&& 31) &&& nI 1 = nI 1 then 1 else 0) := by unfold pf_useB; rw [if_neg h50]; simp
            simp only [sumF] at ih
            rw [e9] at ih
            exact ih
          · refine g_al0 (pc2 := 54) dX8_use_53 rfl ?_
            refine g_il2 (pc2 := 55) dX8_use_54 rfl ?_
            refine g_il4 (pc2 := 57) dX8_use_55 rfl ?_
            refine g_cVi (pc2 := 60) (R_m_onTrack l (d + 1) _ hw _ _) meX8_onTrack mlX8_193 (by rfl) ⟨_, rfl, rfl⟩ rfl rfl (by simp) ⟨Nat.le_refl _, Nat.le_refl _⟩ dX8_use_57 rfl ?_
            refine g_if_eq 67 63 dX8_use_60 rfl rfl (fun h60 => ?_) (fun h60 => ?_)
            · refine g_iconst (pc2 := 68) dX8_use_67 k_iconst_0 rfl ?_
              refine g_goto 81 dX8_use_68 rfl ?_
              skip
              refine g_iaddN (pc2 := 82) dX8_use_81 rfl ?_
              refine g_is3 (pc2 := 83) dX8_use_82 (by decide) rfl ?_
              refine g_in4 (pc2 := 86) dX8_use_83 (nI_inc _) (by decide) rfl ?_
              refine g_goto 41 dX8_use_86 rfl ?_
              simp only [sumF] at ih
              first | (rw [show pf_useB (σ 77) a x k = false from by unfold pf_useB; rw [if_pos h50]; simp [h60]] at ih; exact ih) | (rw [show pf_useB (σ 77) a x k = true from by unfold pf_useB; rw [if_pos h50]; simp [h60]] at ih; exact ih)
            · refine g_iconst (pc2 := 64) dX8_use_63 k_iconst_1 rfl ?_
              refine g_goto 81 dX8_use_64 rfl ?_
              skip
              refine g_iaddN (pc2 := 82) dX8_use_81 rfl ?_
              refine g_is3 (pc2 := 83) dX8_use_82 (by decide) rfl ?_
              refine g_in4 (pc2 := 86) dX8_use_83 (nI_inc _) (by decide) rfl ?_
              refine g_goto 41 dX8_use_86 rfl ?_
              simp only [sumF] at ih
              first | (rw [show pf_useB (σ 77) a x k = false from by unfold pf_useB; rw [if_pos h50]; simp [h60]] at ih; exact ih) | (rw [show pf_useB (σ 77) a x k = true from by unfold pf_useB; rw [if_pos h50]; simp [h60]] at ih; exact ih)
    refine g_iconst (pc2 := 37) dX8_use_36 k_iconst_0 rfl ?_
    refine g_is3 (pc2 := 38) dX8_use_37 (by decide) rfl ?_
    refine g_iconst (pc2 := 39) dX8_use_38 k_iconst_0 rfl ?_
    refine g_is4 (pc2 := 41) dX8_use_39 (by decide) rfl ?_
    exact key 0 (Nat.zero_le _)
  refine g_il1 (pc2 := 1) dX8_use_0 rfl ?_
  refine g_iconst (pc2 := 2) dX8_use_1 k_iconst_0 rfl ?_
  refine g_iconst (pc2 := 3) dX8_use_2 k_iconst_1 rfl ?_
  refine g_cSi (pc2 := 6) (R_m_in l (d + 2) _ _ _ _ _) meX8_in mlX8_58 rfl rfl (by simp) ⟨Nat.le_refl _, Nat.le_refl _⟩ dX8_use_3 rfl ?_
  rw [inB_2]
  refine g_if_eqB 34 9 dX8_use_6 rfl rfl (fun h6 => ?_) (fun h6 => ?_)
  · subst hr
    refine g_iconst (pc2 := 35) dX8_use_34 k_iconst_m1 rfl ?_
    exact g_iretT dX8_use_35 rfl (Nat.le_refl _) (Nat.le_refl _) (by simp [F_use, h6]) (rfl)
  · refine g_il2 (pc2 := 10) dX8_use_9 rfl ?_
    refine g_iconst (pc2 := 11) dX8_use_10 k_iconst_0 rfl ?_
    refine g_il1 (pc2 := 12) dX8_use_11 rfl ?_
    refine g_if_ne 26 15 dX8_use_12 rfl rfl (fun h12 => ?_) (fun h12 => ?_)
    · refine g_bipush (pc2 := 28) dX8_use_26 k_bipush_11 rfl ?_
      refine g_cSi (pc2 := 31) (R_m_in l (d + 2) _ _ _ _ _) meX8_in mlX8_58 rfl rfl (by simp) ⟨Nat.le_refl _, Nat.le_refl _⟩ dX8_use_28 rfl ?_
      have e9 : ∀ q, q = hasB x (if a = 0 then σ 77 1 else nI 12) → lt_g l (d + 4) mX8_use lt_SA σ 31 [some (.ref 76), some (.int a), some (.int x), none, none] [.int (bI q)] r σ := by
        intro q hq
        refine g_if_neB 36 34 dX8_use_31 rfl rfl (fun h31 => ?_) (fun h31 => ?_)
        · exact fin h6 (by rw [← hq]; exact h31)
        · subst hr
          refine g_iconst (pc2 := 35) dX8_use_34 k_iconst_m1 rfl ?_
          exact g_iretT dX8_use_35 rfl (Nat.le_refl _) (Nat.le_refl _) (by unfold F_use; rw [← hq, h31, h6]; rfl) rfl
      exact e9 _ (by first | (rw [if_pos h12, hT.1, inB_has (by omega)]; done) | (rw [if_neg h12, inB_12]; done))
    · refine g_al0 (pc2 := 16) dX8_use_15 rfl ?_
      refine g_getr (pc2 := 19) (by rfl) (by rfl) flX8_7 dX8_use_16 rfl ?_
      refine g_iconst (pc2 := 20) dX8_use_19 k_iconst_1 rfl ?_
      refine g_iald (pc2 := 21) (by rfl) (by omega) (by decide) dX8_use_20 rfl ?_
      refine g_iconst (pc2 := 22) dX8_use_21 k_iconst_1 rfl ?_
      refine g_isub (pc2 := 23) dX8_use_22 rfl ?_
      refine g_goto 28 dX8_use_23 rfl ?_
      refine g_cSi (pc2 := 31) (R_m_in l (d + 2) _ _ _ _ _) meX8_in mlX8_58 rfl rfl (by simp) ⟨Nat.le_refl _, Nat.le_refl _⟩ dX8_use_28 rfl ?_
      have e9 : ∀ q, q = hasB x (if a = 0 then σ 77 1 else nI 12) → lt_g l (d + 4) mX8_use lt_SA σ 31 [some (.ref 76), some (.int a), some (.int x), none, none] [.int (bI q)] r σ := by
        intro q hq
        refine g_if_neB 36 34 dX8_use_31 rfl rfl (fun h31 => ?_) (fun h31 => ?_)
        · exact fin h6 (by rw [← hq]; exact h31)
        · subst hr
          refine g_iconst (pc2 := 35) dX8_use_34 k_iconst_m1 rfl ?_
          exact g_iretT dX8_use_35 rfl (Nat.le_refl _) (Nat.le_refl _) (by unfold F_use; rw [← hq, h31, h6]; rfl) rfl
      exact e9 _ (by first | (rw [if_pos h12, hT.1, inB_has (by omega)]; done) | (rw [if_neg h12, inB_12]; done))
theorem hasB_out {x : Int32} {n : Nat} (hn : n < 2 ^ 31) (h : hasB x (nI n) = false) : x.toInt < 0 ∨ (n : Int) - 1 < x.toInt := by
  unfold hasB at h
  by_cases hx : x < 0
  · left
    have := Int32.lt_iff_toInt_lt.mp hx
    simpa using this
  · right
    have h2 : nI n ≤ x := by simpa [hx] using h
    have := Int32.le_iff_toInt_le.mp h2
    rw [nI_toInt hn] at this
    omega
def F_count (w : Nat → Int32) (ch le x : Int32) : Int32 := if hasB x (nI 8) then (match tN x with
  | 0 => w 0
  | 1 => w 1
  | 2 => w 2
  | 3 => w 3
  | 4 => nI (pf_placed w)
  | 5 => nI (pf_wished w)
  | 6 => ch
  | _ => le) else -1
theorem R_m_count (l : lt_L) (d : Nat) (σ : lt_S) {ln T N : Nat} (hw : Wf (σ 77) ln T N) (x : Int32) : lt_T l (d + 3) mX8_count lt_SA σ [.ref 76, .int x] (some (F_count (σ 77) (σ 76 3) (σ 76 5) x)) σ := by
  refine lt_T.of [some (.ref 76), some (.int x)] rfl rfl (Nat.le_of_ble_eq_true rfl) ?_
  cases h : hasB x (nI 8) with
  | false =>
    have ho := hasB_out (by decide) h
    refine g_il1 (pc2 := 1) dX8_count_0 rfl ?_
    refine g_tableOut 96 dX8_count_1 (by omega) rfl ?_
    refine g_iconst (pc2 := 97) dX8_count_96 k_iconst_m1 rfl ?_
    exact g_iretT dX8_count_97 rfl (Nat.le_refl _) (Nat.le_refl _) (by simp [F_count, h]) (rfl)
  | true =>
    obtain ⟨k, hk, rfl⟩ := hasB_ix (by decide) h
    unfold F_count
    rw [h, if_pos rfl, tN_nI (by omega)]
    clear h
    rcases (show k = 0 ∨ k = 1 ∨ k = 2 ∨ k = 3 ∨ k = 4 ∨ k = 5 ∨ k = 6 ∨ k = 7 by omega) with rfl | rfl | rfl | rfl | rfl | rfl | rfl | rfl
    · refine g_il1 (pc2 := 1) dX8_count_0 rfl ?_
      refine g_tableIn 48 dX8_count_1 (by decide) (by decide) (off := 47) (by decide) rfl ?_
      refine g_al0 (pc2 := 49) dX8_count_48 rfl ?_
      refine g_getr (pc2 := 52) (by rfl) (by rfl) flX8_7 dX8_count_49 rfl ?_
      refine g_iconst (pc2 := 53) dX8_count_52 k_iconst_0 rfl ?_
      refine g_iald (pc2 := 54) (by rfl) (by omega) (by decide) dX8_count_53 rfl ?_
      exact g_iretT dX8_count_54 rfl (Nat.le_refl _) (Nat.le_refl _) (rfl) (rfl)
    · refine g_il1 (pc2 := 1) dX8_count_0 rfl ?_
      refine g_tableIn 55 dX8_count_1 (by decide) (by decide) (off := 54) (by decide) rfl ?_
      refine g_al0 (pc2 := 56) dX8_count_55 rfl ?_
      refine g_getr (pc2 := 59) (by rfl) (by rfl) flX8_7 dX8_count_56 rfl ?_
      refine g_iconst (pc2 := 60) dX8_count_59 k_iconst_1 rfl ?_
      refine g_iald (pc2 := 61) (by rfl) (by omega) (by decide) dX8_count_60 rfl ?_
      exact g_iretT dX8_count_61 rfl (Nat.le_refl _) (Nat.le_refl _) (rfl) (rfl)
    · refine g_il1 (pc2 := 1) dX8_count_0 rfl ?_
      refine g_tableIn 62 dX8_count_1 (by decide) (by decide) (off := 61) (by decide) rfl ?_
      refine g_al0 (pc2 := 63) dX8_count_62 rfl ?_
      refine g_getr (pc2 := 66) (by rfl) (by rfl) flX8_7 dX8_count_63 rfl ?_
      refine g_iconst (pc2 := 67) dX8_count_66 k_iconst_2 rfl ?_
      refine g_iald (pc2 := 68) (by rfl) (by omega) (by decide) dX8_count_67 rfl ?_
      exact g_iretT dX8_count_68 rfl (Nat.le_refl _) (Nat.le_refl _) (rfl) (rfl)
    · refine g_il1 (pc2 := 1) dX8_count_0 rfl ?_
      refine g_tableIn 69 dX8_count_1 (by decide) (by decide) (off := 68) (by decide) rfl ?_
      refine g_al0 (pc2 := 70) dX8_count_69 rfl ?_
      refine g_getr (pc2 := 73) (by rfl) (by rfl) flX8_7 dX8_count_70 rfl ?_
      refine g_iconst (pc2 := 74) dX8_count_73 k_iconst_3 rfl ?_
      refine g_iald (pc2 := 75) (by rfl) (by omega) (by decide) dX8_count_74 rfl ?_
      exact g_iretT dX8_count_75 rfl (Nat.le_refl _) (Nat.le_refl _) (rfl) (rfl)
    · refine g_il1 (pc2 := 1) dX8_count_0 rfl ?_
      refine g_tableIn 76 dX8_count_1 (by decide) (by decide) (off := 75) (by decide) rfl ?_
      refine g_al0 (pc2 := 77) dX8_count_76 rfl ?_
      refine g_cVi (pc2 := 80) (R_m_placed l d _ hw) meX8_placed mlX8_152 (by rfl) ⟨_, rfl, rfl⟩ rfl rfl (by simp) ⟨Nat.le_refl _, Nat.le_refl _⟩ dX8_count_77 rfl ?_
      exact g_iretT dX8_count_80 rfl (Nat.le_refl _) (Nat.le_refl _) (rfl) (rfl)
    · refine g_il1 (pc2 := 1) dX8_count_0 rfl ?_
      refine g_tableIn 81 dX8_count_1 (by decide) (by decide) (off := 80) (by decide) rfl ?_
      refine g_al0 (pc2 := 82) dX8_count_81 rfl ?_
      refine g_cVi (pc2 := 85) (R_m_asWished l d _ hw) meX8_asWished mlX8_199 (by rfl) ⟨_, rfl, rfl⟩ rfl rfl (by simp) ⟨Nat.le_refl _, Nat.le_refl _⟩ dX8_count_82 rfl ?_
      exact g_iretT dX8_count_85 rfl (Nat.le_refl _) (Nat.le_refl _) (rfl) (rfl)
    · refine g_il1 (pc2 := 1) dX8_count_0 rfl ?_
      refine g_tableIn 86 dX8_count_1 (by decide) (by decide) (off := 85) (by decide) rfl ?_
      refine g_al0 (pc2 := 87) dX8_count_86 rfl ?_
      refine g_geti (pc2 := 90) (by rfl) (by rfl) flX8_48 dX8_count_87 rfl ?_
      exact g_iretT dX8_count_90 rfl (Nat.le_refl _) (Nat.le_refl _) (rfl) (rfl)
    · refine g_il1 (pc2 := 1) dX8_count_0 rfl ?_
      refine g_tableIn 91 dX8_count_1 (by decide) (by decide) (off := 90) (by decide) rfl ?_
      refine g_al0 (pc2 := 92) dX8_count_91 rfl ?_
      refine g_geti (pc2 := 95) (by rfl) (by rfl) flX8_55 dX8_count_92 rfl ?_
      exact g_iretT dX8_count_95 rfl (Nat.le_refl _) (Nat.le_refl _) (rfl) (rfl)
end
section
/-! stores -/
theorem lt_ur_eq (σ : lt_S) (a : Nat) (f : Nat → Int32) : lt_ur σ a f a = f := if_pos rfl
theorem lt_ur_ne (σ : lt_S) {a b : Nat} (f : Nat → Int32) (h : b ≠ a) : lt_ur σ a f b = σ b := if_neg h
theorem lt_ur_ur (σ : lt_S) (a : Nat) (f g : Nat → Int32) : lt_ur (lt_ur σ a f) a g = lt_ur σ a g := by
  funext b
  by_cases h : b = a
  · subst h; rw [lt_ur_eq, lt_ur_eq]
  · rw [lt_ur_ne _ _ h, lt_ur_ne _ _ h, lt_ur_ne _ _ h]
theorem lt_ur_self (σ : lt_S) (a : Nat) : lt_ur σ a (σ a) = σ := by
  funext b
  by_cases h : b = a
  · subst h; rw [lt_ur_eq]
  · rw [lt_ur_ne _ _ h]
theorem lt_ur_swap (σ : lt_S) {a b : Nat} (f g : Nat → Int32) (h : a ≠ b) : lt_ur (lt_ur σ a f) b g = lt_ur (lt_ur σ b g) a f := by
  funext c
  by_cases h1 : c = a
  · subst h1; rw [lt_ur_ne _ _ h, lt_ur_eq, lt_ur_eq]
  · by_cases h2 : c = b
    · subst h2; rw [lt_ur_eq, lt_ur_ne _ _ h1, lt_ur_eq]
    · rw [lt_ur_ne _ _ h2, lt_ur_ne _ _ h1, lt_ur_ne _ _ h1, lt_ur_ne _ _ h2]
theorem lt_up_row (σ : lt_S) (a k : Nat) (x : Int32) : lt_up σ a k x a = upd (σ a) k x := if_pos rfl
theorem lt_up_at (σ : lt_S) (a k : Nat) (x : Int32) : lt_up σ a k x a k = x := by rw [lt_up_row]; exact if_pos rfl
theorem lt_up_nr (σ : lt_S) {a b : Nat} (k : Nat) (x : Int32) (h : b ≠ a) : lt_up σ a k x b = σ b := if_neg h
theorem lt_up_ne (σ : lt_S) (a : Nat) {k j : Nat} (x : Int32) (h : j ≠ k) : lt_up σ a k x a j = σ a j := by rw [lt_up_row]; exact if_neg h
theorem lt_up_up (σ : lt_S) (a k : Nat) (x y : Int32) : lt_up (lt_up σ a k x) a k y = lt_up σ a k y := by
  rw [lt_up_ur, lt_up_row, lt_up_ur σ a k x, lt_ur_ur, lt_up_ur]
  congr 1
  funext j
  by_cases h : j = k
  · subst h; rw [pk_us, pk_us]
  · rw [pk_un h, pk_un h, pk_un h]
theorem cpy_0 {f g : Nat → Int32} {sp dp : Nat} : va_cpy f g sp dp 0 = g := by
  funext k
  exact if_neg (by omega)
theorem cpy_s {f g : Nat → Int32} {sp dp n : Nat} : upd (va_cpy f g sp dp n) (dp + n) (f (sp + n)) = va_cpy f g sp dp (n + 1) := by
  funext k
  unfold upd va_cpy
  by_cases h : k = dp + n
  · subst h
    rw [if_pos rfl, if_pos (by omega), show dp + n - dp = n by omega]
  · rw [if_neg h]
    by_cases h2 : dp ≤ k ∧ k < dp + n
    · rw [if_pos h2, if_pos (by omega)]
    · rw [if_neg h2, if_neg (by omega)]
/-! the reference: writes -/
theorem R_m_write (l : lt_L) (d : Nat) (σ : lt_S) {n : Nat} (hn : σ 76 5 = nI n) (hn2 : n ≤ 200) (c : Int32) : lt_T l (d + 2) mX8_write lt_SA σ [.ref 76, .int c] (some (if inB c (nI 32) (nI 126) then (if n = 200 then -3 else nI (n + 1)) else -1)) (if inB c (nI 32) (nI 126) && decide (n < 200) then lt_up (lt_up σ 80 n c) 76 5 (nI (n + 1)) else σ) := by
  refine lt_T.of [some (.ref 76), some (.int c)] rfl rfl (Nat.le_of_ble_eq_true rfl) ?_
  refine g_il1 (pc2 := 1) dX8_write_0 rfl ?_
  refine g_bipush (pc2 := 3) dX8_write_1 k_bipush_32 rfl ?_
  refine g_bipush (pc2 := 5) dX8_write_3 k_bipush_126 rfl ?_
  refine g_cSi (pc2 := 8) (R_m_in l d _ _ _ _ _) meX8_in mlX8_58 rfl rfl (by simp) ⟨Nat.le_refl _, Nat.le_refl _⟩ dX8_write_5 rfl ?_
  refine g_if_neB 13 11 dX8_write_8 rfl rfl (fun h8 => ?_) (fun h8 => ?_)
  · refine g_al0 (pc2 := 14) dX8_write_13 rfl ?_
    refine g_geti (pc2 := 17) (by rfl) (by rfl) flX8_55 dX8_write_14 rfl ?_
    rw [hn]
    refine g_sipush (pc2 := 20) dX8_write_17 k_sipush_200 rfl ?_
    refine g_icmpN_ne 26 23 dX8_write_20 rfl rfl (by omega) (by omega) (fun h20 => ?_) (fun h20 => ?_)
    · refine g_al0 (pc2 := 27) dX8_write_26 rfl ?_
      refine g_getr (pc2 := 30) (by rfl) (by rfl) flX8_19 dX8_write_27 rfl ?_
      refine g_al0 (pc2 := 31) dX8_write_30 rfl ?_
      refine g_geti (pc2 := 34) (by rfl) (by rfl) flX8_55 dX8_write_31 rfl ?_
      rw [hn]
      refine g_il1 (pc2 := 35) dX8_write_34 rfl ?_
      refine g_iast (pc2 := 36) (by rfl) (by omega) (by decide) dX8_write_35 rfl ?_
      refine g_al0 (pc2 := 37) dX8_write_36 rfl ?_
      refine g_dup (pc2 := 38) dX8_write_37 rfl ?_
      refine g_geti (pc2 := 41) (by rfl) (by rfl) flX8_55 dX8_write_38 rfl ?_
      rw [show lt_up σ 80 n c 76 5 = σ 76 5 from rfl, hn]
      refine g_iconst (pc2 := 42) dX8_write_41 k_iconst_1 rfl ?_
      refine g_iaddN (pc2 := 43) dX8_write_42 rfl ?_
      refine g_puti (pc2 := 46) (by rfl) (by rfl) flX8_55 (fpX8_5 _) (fun h => by first | cases h | rfl) dX8_write_43 rfl ?_
      refine g_al0 (pc2 := 47) dX8_write_46 rfl ?_
      refine g_geti (pc2 := 50) (by rfl) (by rfl) flX8_55 dX8_write_47 rfl ?_
      rw [lt_up_at]
      exact g_iretT dX8_write_50 rfl (Nat.le_refl _) (Nat.le_refl _) (by simp [h8, h20]) (by rw [if_pos (by simp [h8]; omega)])
    · refine g_bipush (pc2 := 25) dX8_write_23 k_bipush_m3 rfl ?_
      exact g_iretT dX8_write_25 rfl (Nat.le_refl _) (Nat.le_refl _) (by simp [h8, h20]) (by simp [h20])
  · refine g_iconst (pc2 := 12) dX8_write_11 k_iconst_m1 rfl ?_
    exact g_iretT dX8_write_12 rfl (Nat.le_refl _) (Nat.le_refl _) (by simp [h8]) (by simp [h8])
theorem R_m_wipe (l : lt_L) (d : Nat) (σ : lt_S) : lt_T l (d + 1) mX8_wipe lt_SA σ [.ref 76] (some (σ 76 5)) (lt_up σ 76 5 (nI 0)) := by
  refine lt_T.of [some (.ref 76), none] rfl rfl (Nat.le_of_ble_eq_true rfl) ?_
  refine g_al0 (pc2 := 1) dX8_wipe_0 rfl ?_
  refine g_geti (pc2 := 4) (by rfl) (by rfl) flX8_55 dX8_wipe_1 rfl ?_
  refine g_is1 (pc2 := 5) dX8_wipe_4 (by decide) rfl ?_
  refine g_al0 (pc2 := 6) dX8_wipe_5 rfl ?_
  refine g_iconst (pc2 := 7) dX8_wipe_6 k_iconst_0 rfl ?_
  refine g_puti (pc2 := 10) (by rfl) (by rfl) flX8_55 (fpX8_5 _) (fun h => by first | cases h | rfl) dX8_wipe_7 rfl ?_
  refine g_il1 (pc2 := 11) dX8_wipe_10 rfl ?_
  exact g_iretT dX8_wipe_11 rfl (Nat.le_refl _) (Nat.le_refl _) (rfl) (rfl)
/-- the reference's past with the row of now behind it -/
def S_keep (σ : lt_S) (c : Nat) : lt_S := if c = 6 then lt_up (lt_ur σ 79 (va_cpy (σ 77) (va_cpy (σ 79) (σ 79) 65 0 325) 0 325 65)) 76 3 (nI 6) else lt_up (lt_ur σ 79 (va_cpy (σ 77) (σ 79) 0 (65 * c) 65)) 76 3 (nI (c + 1))
theorem R_m_keeps2 (l : lt_L) (d : Nat) (σ σ0 : lt_S) {c : Nat} (hc : σ 76 3 = nI c) (hc5 : c < 6) (he : lt_up (lt_ur σ 79 (va_cpy (σ 77) (σ 79) 0 (65 * c) 65)) 76 3 (nI (c + 1)) = σ0) (z : Option Value) : lt_g l (d + 1) mX8_keeps lt_SA σ 49 [some (.ref 76), z] [] none σ0 := by
  have key : ∀ k, k ≤ 65 → lt_g l (d + 1) mX8_keeps lt_SA (lt_ur σ 79 (va_cpy (σ 77) (σ 79) 0 (65 * c) k)) 51 [some (.ref 76), some (.int (nI k))] [] none σ0 := by
    refine lt_dn 65 ?_ ?_
    · refine g_il1 (pc2 := 52) dX8_keeps_51 rfl ?_
      refine g_bipush (pc2 := 54) dX8_keeps_52 k_bipush_65 rfl ?_
      refine g_icmpN_ge 83 57 dX8_keeps_54 rfl rfl (by omega) (by omega) (fun h54 => ?_) (fun h54 => ?_)
      · refine g_al0 (pc2 := 84) dX8_keeps_83 rfl ?_
        refine g_dup (pc2 := 85) dX8_keeps_84 rfl ?_
        refine g_geti (pc2 := 88) (by rfl) (by rfl) flX8_48 dX8_keeps_85 rfl ?_
        rw [show lt_ur σ 79 (va_cpy (σ 77) (σ 79) 0 (65 * c) 65) 76 3 = σ 76 3 from rfl, hc]
        refine g_iconst (pc2 := 89) dX8_keeps_88 k_iconst_1 rfl ?_
        refine g_iaddN (pc2 := 90) dX8_keeps_89 rfl ?_
        refine g_puti (pc2 := 93) (by rfl) (by rfl) flX8_48 (fpX8_3 _) (fun h => by first | cases h | rfl) dX8_keeps_90 rfl ?_
        exact g_retT dX8_keeps_93 rfl (Nat.le_refl _) (Nat.le_refl _) (he)
      · omega
    · intro k hk ih
      refine g_il1 (pc2 := 52) dX8_keeps_51 rfl ?_
      refine g_bipush (pc2 := 54) dX8_keeps_52 k_bipush_65 rfl ?_
      refine g_icmpN_ge 83 57 dX8_keeps_54 rfl rfl (by omega) (by omega) (fun h54 => ?_) (fun h54 => ?_)
      · omega
      · refine g_al0 (pc2 := 58) dX8_keeps_57 rfl ?_
        refine g_getr (pc2 := 61) (by rfl) (by rfl) flX8_16 dX8_keeps_58 rfl ?_
        refine g_bipush (pc2 := 63) dX8_keeps_61 k_bipush_65 rfl ?_
        refine g_al0 (pc2 := 64) dX8_keeps_63 rfl ?_
        refine g_geti (pc2 := 67) (by rfl) (by rfl) flX8_48 dX8_keeps_64 rfl ?_
        rw [show lt_ur σ 79 (va_cpy (σ 77) (σ 79) 0 (65 * c) k) 76 3 = σ 76 3 from rfl, hc]
        refine g_imulN (pc2 := 68) dX8_keeps_67 rfl ?_
        refine g_il1 (pc2 := 69) dX8_keeps_68 rfl ?_
        refine g_iaddN (pc2 := 70) dX8_keeps_69 rfl ?_
        refine g_al0 (pc2 := 71) dX8_keeps_70 rfl ?_
        refine g_getr (pc2 := 74) (by rfl) (by rfl) flX8_7 dX8_keeps_71 rfl ?_
        refine g_il1 (pc2 := 75) dX8_keeps_74 rfl ?_
        refine g_iald (pc2 := 76) (by rfl) (by omega) (by decide) dX8_keeps_75 rfl ?_
        refine g_iast (pc2 := 77) (by rfl) (by omega) (by decide) dX8_keeps_76 rfl ?_
        refine g_in1 (pc2 := 80) dX8_keeps_77 (nI_inc _) (by decide) rfl ?_
        refine g_goto 51 dX8_keeps_80 rfl ?_
        rw [lt_up_ur, lt_ur_eq, lt_ur_ur, show lt_ur σ 79 (va_cpy (σ 77) (σ 79) 0 (65 * c) k) 77 k = σ 77 (0 + k) from congrArg (σ 77) (Nat.zero_add k).symm, cpy_s]
        exact ih
  have k0 := key 0 (Nat.zero_le _)
  rw [cpy_0, lt_ur_self] at k0
  refine g_iconst (pc2 := 50) dX8_keeps_49 k_iconst_0 rfl ?_
  refine g_is1 (pc2 := 51) dX8_keeps_50 (by decide) rfl ?_
  exact k0
theorem R_m_keeps (l : lt_L) (d : Nat) (σ : lt_S) {c : Nat} (hc : σ 76 3 = nI c) (hc6 : c ≤ 6) : lt_T l (d + 1) mX8_keeps lt_SA σ [.ref 76] none (S_keep σ c) := by
  refine lt_T.of [some (.ref 76), none] rfl rfl (Nat.le_of_ble_eq_true rfl) ?_
  have key : c = 6 → ∀ k, k ≤ 325 → lt_g l (d + 1) mX8_keeps lt_SA (lt_ur σ 79 (va_cpy (σ 79) (σ 79) 65 0 k)) 11 [some (.ref 76), some (.int (nI k))] [] none (S_keep σ c) := by
    intro e6
    refine lt_dn 325 ?_ ?_
    · refine g_il1 (pc2 := 12) dX8_keeps_11 rfl ?_
      refine g_sipush (pc2 := 15) dX8_keeps_12 k_sipush_325 rfl ?_
      refine g_icmpN_ge 39 18 dX8_keeps_15 rfl rfl (by omega) (by omega) (fun h15 => ?_) (fun h15 => ?_)
      · refine g_al0 (pc2 := 40) dX8_keeps_39 rfl ?_
        refine g_dup (pc2 := 41) dX8_keeps_40 rfl ?_
        refine g_geti (pc2 := 44) (by rfl) (by rfl) flX8_48 dX8_keeps_41 rfl ?_
        rw [show lt_ur σ 79 (va_cpy (σ 79) (σ 79) 65 0 325) 76 3 = σ 76 3 from rfl, hc]
        refine g_iconst (pc2 := 45) dX8_keeps_44 k_iconst_1 rfl ?_
        refine g_isubN (pc2 := 46) dX8_keeps_45 rfl (by omega) ?_
        refine g_puti (pc2 := 49) (by rfl) (by rfl) flX8_48 (fpX8_3 _) (fun h => by first | cases h | rfl) dX8_keeps_46 rfl ?_
        refine R_m_keeps2 l d _ _ (c := 5) (by rw [lt_up_at, e6]) (by decide) ?_ _
        unfold S_keep
        rw [if_pos e6, e6]
        rw [lt_up_nr _ _ _ (show (79 : Nat) ≠ 76 by decide), lt_ur_eq, lt_up_nr _ _ _ (show (77 : Nat) ≠ 76 by decide), lt_ur_ne _ _ (show (77 : Nat) ≠ 79 by decide)]
        rw [lt_up_ur (lt_ur σ 79 _), lt_ur_swap _ _ _ (show (76 : Nat) ≠ 79 by decide), lt_ur_ur]
        rw [lt_up_ur, lt_up_ur, lt_ur_eq, lt_ur_ur]
        congr 1
        rw [lt_ur_ne _ _ (show (76 : Nat) ≠ 79 by decide), lt_ur_ne _ _ (show (76 : Nat) ≠ 79 by decide)]
        funext j
        by_cases hj : j = 3
        · subst hj; rw [pk_us, pk_us]
        · rw [pk_un hj, pk_un hj, pk_un hj]
      · omega
    · intro k hk ih
      refine g_il1 (pc2 := 12) dX8_keeps_11 rfl ?_
      refine g_sipush (pc2 := 15) dX8_keeps_12 k_sipush_325 rfl ?_
      refine g_icmpN_ge 39 18 dX8_keeps_15 rfl rfl (by omega) (by omega) (fun h15 => ?_) (fun h15 => ?_)
      · omega
      · refine g_al0 (pc2 := 19) dX8_keeps_18 rfl ?_
        refine g_getr (pc2 := 22) (by rfl) (by rfl) flX8_16 dX8_keeps_19 rfl ?_
        refine g_il1 (pc2 := 23) dX8_keeps_22 rfl ?_
        refine g_al0 (pc2 := 24) dX8_keeps_23 rfl ?_
        refine g_getr (pc2 := 27) (by rfl) (by rfl) flX8_16 dX8_keeps_24 rfl ?_
        refine g_il1 (pc2 := 28) dX8_keeps_27 rfl ?_
        refine g_bipush (pc2 := 30) dX8_keeps_28 k_bipush_65 rfl ?_
        refine g_iaddN (pc2 := 31) dX8_keeps_30 rfl ?_
        refine g_iald (pc2 := 32) (by rfl) (by omega) (by decide) dX8_keeps_31 rfl ?_
        refine g_iast (pc2 := 33) (by rfl) (by omega) (by decide) dX8_keeps_32 rfl ?_
        refine g_in1 (pc2 := 36) dX8_keeps_33 (nI_inc _) (by decide) rfl ?_
        refine g_goto 11 dX8_keeps_36 rfl ?_
        rw [lt_ur_eq, show va_cpy (σ 79) (σ 79) 65 0 k (k + 65) = σ 79 (65 + k) from (by rw [pk_cpy_out (Or.inr (by omega)), Nat.add_comm]), lt_up_ur, lt_ur_eq, lt_ur_ur]
        have e9 := cpy_s (f := σ 79) (g := σ 79) (sp := 65) (dp := 0) (n := k)
        rw [Nat.zero_add] at e9
        rw [e9]
        exact ih
  refine g_al0 (pc2 := 1) dX8_keeps_0 rfl ?_
  refine g_geti (pc2 := 4) (by rfl) (by rfl) flX8_48 dX8_keeps_1 rfl ?_
  rw [hc]
  refine g_bipush (pc2 := 6) dX8_keeps_4 k_bipush_6 rfl ?_
  refine g_icmpN_ne 49 9 dX8_keeps_6 rfl rfl (by omega) (by omega) (fun h6 => ?_) (fun h6 => ?_)
  · exact R_m_keeps2 l d _ _ hc (by omega) (by unfold S_keep; rw [if_neg h6]) _
  · refine g_iconst (pc2 := 10) dX8_keeps_9 k_iconst_0 rfl ?_
    refine g_is1 (pc2 := 11) dX8_keeps_10 (by decide) rfl ?_
    have k0 := key h6 0 (Nat.zero_le _)
    rw [cpy_0, lt_ur_self] at k0
    exact k0
/-- undone: now is the last row of the past -/
def S_undo (σ : lt_S) (c : Nat) : lt_S := lt_ur (lt_up σ 76 3 (nI (c - 1))) 77 (va_cpy (σ 79) (σ 77) (65 * (c - 1)) 0 65)
theorem R_m_undo (l : lt_L) (d : Nat) (σ : lt_S) {c : Nat} (hc : σ 76 3 = nI c) (hc6 : c ≤ 6) : lt_T l (d + 1) mX8_undo lt_SA σ [.ref 76] (some (if c = 0 then -2 else nI (c - 1))) (if c = 0 then σ else S_undo σ c) := by
  refine lt_T.of [some (.ref 76), none] rfl rfl (Nat.le_of_ble_eq_true rfl) ?_
  by_cases h0 : c = 0
  · rw [if_pos h0, if_pos h0]
    subst h0
    refine g_al0 (pc2 := 1) dX8_undo_0 rfl ?_
    refine g_geti (pc2 := 4) (by rfl) (by rfl) flX8_48 dX8_undo_1 rfl ?_
    rw [hc]
    refine g_if_ne 10 7 dX8_undo_4 rfl rfl (fun h4 => ?_) (fun h4 => ?_)
    · exact absurd rfl h4
    · refine g_bipush (pc2 := 9) dX8_undo_7 k_bipush_m2 rfl ?_
      exact g_iretT dX8_undo_9 rfl (Nat.le_refl _) (Nat.le_refl _) (rfl) (rfl)
  · rw [if_neg h0, if_neg h0]
    have key : ∀ k, k ≤ 65 → lt_g l (d + 1) mX8_undo lt_SA (lt_ur (lt_up σ 76 3 (nI (c - 1))) 77 (va_cpy (σ 79) (σ 77) (65 * (c - 1)) 0 k)) 22 [some (.ref 76), some (.int (nI k))] [] (some (nI (c - 1))) (S_undo σ c) := by
      refine lt_dn 65 ?_ ?_
      · refine g_il1 (pc2 := 23) dX8_undo_22 rfl ?_
        refine g_bipush (pc2 := 25) dX8_undo_23 k_bipush_65 rfl ?_
        refine g_icmpN_ge 54 28 dX8_undo_25 rfl rfl (by omega) (by omega) (fun h25 => ?_) (fun h25 => ?_)
        · refine g_al0 (pc2 := 55) dX8_undo_54 rfl ?_
          refine g_geti (pc2 := 58) (by rfl) (by rfl) flX8_48 dX8_undo_55 rfl ?_
          exact g_iretT dX8_undo_58 rfl (Nat.le_refl _) (Nat.le_refl _) (lt_up_at σ 76 3 (nI (c - 1))) (rfl)
        · omega
      · intro k hk ih
        refine g_il1 (pc2 := 23) dX8_undo_22 rfl ?_
        refine g_bipush (pc2 := 25) dX8_undo_23 k_bipush_65 rfl ?_
        refine g_icmpN_ge 54 28 dX8_undo_25 rfl rfl (by omega) (by omega) (fun h25 => ?_) (fun h25 => ?_)
        · omega
        · refine g_al0 (pc2 := 29) dX8_undo_28 rfl ?_
          refine g_getr (pc2 := 32) (by rfl) (by rfl) flX8_7 dX8_undo_29 rfl ?_
          refine g_il1 (pc2 := 33) dX8_undo_32 rfl ?_
          refine g_al0 (pc2 := 34) dX8_undo_33 rfl ?_
          refine g_getr (pc2 := 37) (by rfl) (by rfl) flX8_16 dX8_undo_34 rfl ?_
          refine g_bipush (pc2 := 39) dX8_undo_37 k_bipush_65 rfl ?_
          refine g_al0 (pc2 := 40) dX8_undo_39 rfl ?_
          refine g_geti (pc2 := 43) (by rfl) (by rfl) flX8_48 dX8_undo_40 rfl ?_
          rw [show lt_ur (lt_up σ 76 3 (nI (c - 1))) 77 (va_cpy (σ 79) (σ 77) (65 * (c - 1)) 0 k) 76 3 = nI (c - 1) from lt_up_at σ 76 3 _]
          refine g_imulN (pc2 := 44) dX8_undo_43 rfl ?_
          refine g_il1 (pc2 := 45) dX8_undo_44 rfl ?_
          refine g_iaddN (pc2 := 46) dX8_undo_45 rfl ?_
          refine g_iald (pc2 := 47) (by rfl) (by omega) (by decide) dX8_undo_46 rfl ?_
          refine g_iast (pc2 := 48) (by rfl) (by omega) (by decide) dX8_undo_47 rfl ?_
          refine g_in1 (pc2 := 51) dX8_undo_48 (nI_inc _) (by decide) rfl ?_
          refine g_goto 22 dX8_undo_51 rfl ?_
          rw [lt_up_ur, lt_ur_eq, lt_ur_ur, show lt_ur (lt_up σ 76 3 (nI (c - 1))) 77 (va_cpy (σ 79) (σ 77) (65 * (c - 1)) 0 k) 79 = σ 79 from rfl]
          have e9 := cpy_s (f := σ 79) (g := σ 77) (sp := 65 * (c - 1)) (dp := 0) (n := k)
          rw [Nat.zero_add] at e9
          rw [e9]
          exact ih
    have k0 := key 0 (Nat.zero_le _)
    rw [cpy_0, show lt_ur (lt_up σ 76 3 (nI (c - 1))) 77 (σ 77) = lt_up σ 76 3 (nI (c - 1)) from lt_ur_self (lt_up σ 76 3 (nI (c - 1))) 77] at k0
    refine g_al0 (pc2 := 1) dX8_undo_0 rfl ?_
    refine g_geti (pc2 := 4) (by rfl) (by rfl) flX8_48 dX8_undo_1 rfl ?_
    rw [hc]
    refine g_if_ne 10 7 dX8_undo_4 rfl rfl (fun h4 => ?_) (fun h4 => ?_)
    · refine g_al0 (pc2 := 11) dX8_undo_10 rfl ?_
      refine g_dup (pc2 := 12) dX8_undo_11 rfl ?_
      refine g_geti (pc2 := 15) (by rfl) (by rfl) flX8_48 dX8_undo_12 rfl ?_
      rw [hc]
      refine g_iconst (pc2 := 16) dX8_undo_15 k_iconst_1 rfl ?_
      refine g_isubN (pc2 := 17) dX8_undo_16 rfl (by omega) ?_
      refine g_puti (pc2 := 20) (by rfl) (by rfl) flX8_48 (fpX8_3 _) (fun h => by first | cases h | rfl) dX8_undo_17 rfl ?_
      refine g_iconst (pc2 := 21) dX8_undo_20 k_iconst_0 rfl ?_
      refine g_is1 (pc2 := 22) dX8_undo_21 (by decide) rfl ?_
      exact k0
    · exact absurd h4 (nI_ne0 (by omega) (by omega))
end
