-- ===== PART A: goes FIRST, ahead of the names: the tables' words, and 'selects' of the private methods out of them =====
/-- a private method of a class that the tables say can be made, by its rows of tables_1 -/
def lw_okq (q : MethodName × Nat) : Prop := (q.1.cls ≠ "java/lang/invoke/MethodHandle" ∧ q.1.cls ≠ "java/lang/invoke/VarHandle") ∧ Cond.instantiable q.1.cls q.2 ∈ tables_1 ∧ Cond.privateMethod q.1 ∈ tables_1 ∧ Cond.instanceMethod q.1 ∈ tables_1
theorem lw_p0 : lw_okq (⟨"ThroatTracks", "fittingTracks", "(I)I"⟩, 8) := ⟨⟨by decide +kernel, by decide +kernel⟩, List.mem_of_getElem? (i := 17) (by decide +kernel), List.mem_of_getElem? (i := 443) (by decide +kernel), List.mem_of_getElem? (i := 444) (by decide +kernel)⟩
theorem lw_p1 : lw_okq (⟨"ThroatTracks", "placedTrains", "()I"⟩, 8) := ⟨⟨by decide +kernel, by decide +kernel⟩, List.mem_of_getElem? (i := 17) (by decide +kernel), List.mem_of_getElem? (i := 479) (by decide +kernel), List.mem_of_getElem? (i := 480) (by decide +kernel)⟩
theorem lw_p2 : lw_okq (⟨"ThroatTracks$Search", "seek", "(III)V"⟩, 8) := ⟨⟨by decide +kernel, by decide +kernel⟩, List.mem_of_getElem? (i := 165) (by decide +kernel), List.mem_of_getElem? (i := 530) (by decide +kernel), List.mem_of_getElem? (i := 531) (by decide +kernel)⟩
theorem lw_p3 : lw_okq (⟨"ThroatTracks", "wishesMet", "([I)I"⟩, 8) := ⟨⟨by decide +kernel, by decide +kernel⟩, List.mem_of_getElem? (i := 17) (by decide +kernel), List.mem_of_getElem? (i := 544) (by decide +kernel), List.mem_of_getElem? (i := 545) (by decide +kernel)⟩
theorem lw_p4 : lw_okq (⟨"ThroatTracks", "movedBy", "([I)I"⟩, 8) := ⟨⟨by decide +kernel, by decide +kernel⟩, List.mem_of_getElem? (i := 17) (by decide +kernel), List.mem_of_getElem? (i := 548) (by decide +kernel), List.mem_of_getElem? (i := 549) (by decide +kernel)⟩
theorem lw_p5 : lw_okq (⟨"ThroatTracks", "trainsOn", "(II)I"⟩, 8) := ⟨⟨by decide +kernel, by decide +kernel⟩, List.mem_of_getElem? (i := 17) (by decide +kernel), List.mem_of_getElem? (i := 577) (by decide +kernel), List.mem_of_getElem? (i := 578) (by decide +kernel)⟩
theorem lw_p6 : lw_okq (⟨"ThroatTracks", "switchesIn", "(I)I"⟩, 8) := ⟨⟨by decide +kernel, by decide +kernel⟩, List.mem_of_getElem? (i := 17) (by decide +kernel), List.mem_of_getElem? (i := 585) (by decide +kernel), List.mem_of_getElem? (i := 586) (by decide +kernel)⟩
theorem lw_p7 : lw_okq (⟨"ThroatTracks", "minutesOfTrack", "(I)I"⟩, 8) := ⟨⟨by decide +kernel, by decide +kernel⟩, List.mem_of_getElem? (i := 17) (by decide +kernel), List.mem_of_getElem? (i := 601) (by decide +kernel), List.mem_of_getElem? (i := 602) (by decide +kernel)⟩
theorem lw_p8 : lw_okq (⟨"ThroatTracks", "minutesOfSwitch", "(I)I"⟩, 8) := ⟨⟨by decide +kernel, by decide +kernel⟩, List.mem_of_getElem? (i := 17) (by decide +kernel), List.mem_of_getElem? (i := 605) (by decide +kernel), List.mem_of_getElem? (i := 606) (by decide +kernel)⟩
theorem lw_p9 : lw_okq (⟨"ThroatTracksModel", "begins", "()V"⟩, 15) := ⟨⟨by decide +kernel, by decide +kernel⟩, List.mem_of_getElem? (i := 613) (by decide +kernel), List.mem_of_getElem? (i := 619) (by decide +kernel), List.mem_of_getElem? (i := 620) (by decide +kernel)⟩
theorem lw_p10 : lw_okq (⟨"ThroatTracksModel", "comes", "(IIIII)V"⟩, 15) := ⟨⟨by decide +kernel, by decide +kernel⟩, List.mem_of_getElem? (i := 613) (by decide +kernel), List.mem_of_getElem? (i := 623) (by decide +kernel), List.mem_of_getElem? (i := 624) (by decide +kernel)⟩
theorem lw_p11 : lw_okq (⟨"ThroatTracksModel", "takesAll", "()V"⟩, 15) := ⟨⟨by decide +kernel, by decide +kernel⟩, List.mem_of_getElem? (i := 613) (by decide +kernel), List.mem_of_getElem? (i := 627) (by decide +kernel), List.mem_of_getElem? (i := 628) (by decide +kernel)⟩
theorem lw_p12 : lw_okq (⟨"ThroatTracksModel", "reads", "()I"⟩, 15) := ⟨⟨by decide +kernel, by decide +kernel⟩, List.mem_of_getElem? (i := 613) (by decide +kernel), List.mem_of_getElem? (i := 693) (by decide +kernel), List.mem_of_getElem? (i := 694) (by decide +kernel)⟩
theorem lw_p13 : lw_okq (⟨"ThroatTracksModel", "takesItem", "()Z"⟩, 15) := ⟨⟨by decide +kernel, by decide +kernel⟩, List.mem_of_getElem? (i := 613) (by decide +kernel), List.mem_of_getElem? (i := 697) (by decide +kernel), List.mem_of_getElem? (i := 698) (by decide +kernel)⟩
theorem lw_p14 : lw_okq (⟨"ThroatTracksModel", "isWord", "(IIII)Z"⟩, 15) := ⟨⟨by decide +kernel, by decide +kernel⟩, List.mem_of_getElem? (i := 613) (by decide +kernel), List.mem_of_getElem? (i := 701) (by decide +kernel), List.mem_of_getElem? (i := 702) (by decide +kernel)⟩
theorem lw_p15 : lw_okq (⟨"ThroatTracksModel", "takesYard", "()Z"⟩, 15) := ⟨⟨by decide +kernel, by decide +kernel⟩, List.mem_of_getElem? (i := 613) (by decide +kernel), List.mem_of_getElem? (i := 705) (by decide +kernel), List.mem_of_getElem? (i := 706) (by decide +kernel)⟩
def lw_privs_1 : List (MethodName × Nat) := [(⟨"ThroatTracks", "fittingTracks", "(I)I"⟩, 8), (⟨"ThroatTracks", "placedTrains", "()I"⟩, 8), (⟨"ThroatTracks$Search", "seek", "(III)V"⟩, 8), (⟨"ThroatTracks", "wishesMet", "([I)I"⟩, 8), (⟨"ThroatTracks", "movedBy", "([I)I"⟩, 8), (⟨"ThroatTracks", "trainsOn", "(II)I"⟩, 8), (⟨"ThroatTracks", "switchesIn", "(I)I"⟩, 8), (⟨"ThroatTracks", "minutesOfTrack", "(I)I"⟩, 8), (⟨"ThroatTracks", "minutesOfSwitch", "(I)I"⟩, 8), (⟨"ThroatTracksModel", "begins", "()V"⟩, 15), (⟨"ThroatTracksModel", "comes", "(IIIII)V"⟩, 15), (⟨"ThroatTracksModel", "takesAll", "()V"⟩, 15), (⟨"ThroatTracksModel", "reads", "()I"⟩, 15), (⟨"ThroatTracksModel", "takesItem", "()Z"⟩, 15), (⟨"ThroatTracksModel", "isWord", "(IIII)Z"⟩, 15), (⟨"ThroatTracksModel", "takesYard", "()Z"⟩, 15)]
theorem lw_r1 : ∀ q ∈ lw_privs_1, lw_okq q := List.forall_mem_cons.mpr ⟨lw_p0, List.forall_mem_cons.mpr ⟨lw_p1, List.forall_mem_cons.mpr ⟨lw_p2, List.forall_mem_cons.mpr ⟨lw_p3, List.forall_mem_cons.mpr ⟨lw_p4, List.forall_mem_cons.mpr ⟨lw_p5, List.forall_mem_cons.mpr ⟨lw_p6, List.forall_mem_cons.mpr ⟨lw_p7, List.forall_mem_cons.mpr ⟨lw_p8, List.forall_mem_cons.mpr ⟨lw_p9, List.forall_mem_cons.mpr ⟨lw_p10, List.forall_mem_cons.mpr ⟨lw_p11, List.forall_mem_cons.mpr ⟨lw_p12, List.forall_mem_cons.mpr ⟨lw_p13, List.forall_mem_cons.mpr ⟨lw_p14, List.forall_mem_cons.mpr ⟨lw_p15, fun _ h => absurd h List.not_mem_nil⟩⟩⟩⟩⟩⟩⟩⟩⟩⟩⟩⟩⟩⟩⟩⟩
theorem lw_p16 : lw_okq (⟨"ThroatTracksModel", "takesNumbers", "(II)Z"⟩, 15) := ⟨⟨by decide +kernel, by decide +kernel⟩, List.mem_of_getElem? (i := 613) (by decide +kernel), List.mem_of_getElem? (i := 709) (by decide +kernel), List.mem_of_getElem? (i := 710) (by decide +kernel)⟩
theorem lw_p17 : lw_okq (⟨"ThroatTracksModel", "takesNumber", "()Z"⟩, 15) := ⟨⟨by decide +kernel, by decide +kernel⟩, List.mem_of_getElem? (i := 613) (by decide +kernel), List.mem_of_getElem? (i := 713) (by decide +kernel), List.mem_of_getElem? (i := 714) (by decide +kernel)⟩
theorem lw_p18 : lw_okq (⟨"ThroatTracksModel", "isAt", "(II)Z"⟩, 15) := ⟨⟨by decide +kernel, by decide +kernel⟩, List.mem_of_getElem? (i := 613) (by decide +kernel), List.mem_of_getElem? (i := 717) (by decide +kernel), List.mem_of_getElem? (i := 718) (by decide +kernel)⟩
theorem lw_p19 : lw_okq (⟨"ThroatTracksModel", "takesPath", "()Z"⟩, 15) := ⟨⟨by decide +kernel, by decide +kernel⟩, List.mem_of_getElem? (i := 613) (by decide +kernel), List.mem_of_getElem? (i := 721) (by decide +kernel), List.mem_of_getElem? (i := 722) (by decide +kernel)⟩
theorem lw_p20 : lw_okq (⟨"ThroatTracksModel", "takesTrain", "()Z"⟩, 15) := ⟨⟨by decide +kernel, by decide +kernel⟩, List.mem_of_getElem? (i := 613) (by decide +kernel), List.mem_of_getElem? (i := 725) (by decide +kernel), List.mem_of_getElem? (i := 726) (by decide +kernel)⟩
theorem lw_p21 : lw_okq (⟨"ThroatTracksModel", "takesPair", "()Z"⟩, 15) := ⟨⟨by decide +kernel, by decide +kernel⟩, List.mem_of_getElem? (i := 613) (by decide +kernel), List.mem_of_getElem? (i := 729) (by decide +kernel), List.mem_of_getElem? (i := 730) (by decide +kernel)⟩
theorem lw_p22 : lw_okq (⟨"ThroatTracksModel", "takesGap", "()Z"⟩, 15) := ⟨⟨by decide +kernel, by decide +kernel⟩, List.mem_of_getElem? (i := 613) (by decide +kernel), List.mem_of_getElem? (i := 733) (by decide +kernel), List.mem_of_getElem? (i := 734) (by decide +kernel)⟩
theorem lw_p23 : lw_okq (⟨"ThroatTracksModel", "isTrack", "(I)Z"⟩, 15) := ⟨⟨by decide +kernel, by decide +kernel⟩, List.mem_of_getElem? (i := 613) (by decide +kernel), List.mem_of_getElem? (i := 749) (by decide +kernel), List.mem_of_getElem? (i := 750) (by decide +kernel)⟩
theorem lw_p24 : lw_okq (⟨"ThroatTracksModel", "routeOf", "(II)I"⟩, 15) := ⟨⟨by decide +kernel, by decide +kernel⟩, List.mem_of_getElem? (i := 613) (by decide +kernel), List.mem_of_getElem? (i := 753) (by decide +kernel), List.mem_of_getElem? (i := 754) (by decide +kernel)⟩
theorem lw_p25 : lw_okq (⟨"ThroatTracksModel", "isTrain", "(I)Z"⟩, 15) := ⟨⟨by decide +kernel, by decide +kernel⟩, List.mem_of_getElem? (i := 613) (by decide +kernel), List.mem_of_getElem? (i := 761) (by decide +kernel), List.mem_of_getElem? (i := 762) (by decide +kernel)⟩
theorem lw_p26 : lw_okq (⟨"ThroatTracksModel", "of", "(II)I"⟩, 15) := ⟨⟨by decide +kernel, by decide +kernel⟩, List.mem_of_getElem? (i := 613) (by decide +kernel), List.mem_of_getElem? (i := 765) (by decide +kernel), List.mem_of_getElem? (i := 766) (by decide +kernel)⟩
theorem lw_p27 : lw_okq (⟨"ThroatTracksModel", "fits", "(I)I"⟩, 15) := ⟨⟨by decide +kernel, by decide +kernel⟩, List.mem_of_getElem? (i := 613) (by decide +kernel), List.mem_of_getElem? (i := 769) (by decide +kernel), List.mem_of_getElem? (i := 770) (by decide +kernel)⟩
theorem lw_p28 : lw_okq (⟨"ThroatTracksModel", "doesFit", "(II)Z"⟩, 15) := ⟨⟨by decide +kernel, by decide +kernel⟩, List.mem_of_getElem? (i := 613) (by decide +kernel), List.mem_of_getElem? (i := 773) (by decide +kernel), List.mem_of_getElem? (i := 774) (by decide +kernel)⟩
theorem lw_p29 : lw_okq (⟨"ThroatTracksModel", "wayIn", "(II)I"⟩, 15) := ⟨⟨by decide +kernel, by decide +kernel⟩, List.mem_of_getElem? (i := 613) (by decide +kernel), List.mem_of_getElem? (i := 777) (by decide +kernel), List.mem_of_getElem? (i := 778) (by decide +kernel)⟩
theorem lw_p30 : lw_okq (⟨"ThroatTracksModel", "wayOut", "(II)I"⟩, 15) := ⟨⟨by decide +kernel, by decide +kernel⟩, List.mem_of_getElem? (i := 613) (by decide +kernel), List.mem_of_getElem? (i := 781) (by decide +kernel), List.mem_of_getElem? (i := 782) (by decide +kernel)⟩
theorem lw_p31 : lw_okq (⟨"ThroatTracksModel", "hardOf", "(I)I"⟩, 15) := ⟨⟨by decide +kernel, by decide +kernel⟩, List.mem_of_getElem? (i := 613) (by decide +kernel), List.mem_of_getElem? (i := 785) (by decide +kernel), List.mem_of_getElem? (i := 786) (by decide +kernel)⟩
def lw_privs_2 : List (MethodName × Nat) := [(⟨"ThroatTracksModel", "takesNumbers", "(II)Z"⟩, 15), (⟨"ThroatTracksModel", "takesNumber", "()Z"⟩, 15), (⟨"ThroatTracksModel", "isAt", "(II)Z"⟩, 15), (⟨"ThroatTracksModel", "takesPath", "()Z"⟩, 15), (⟨"ThroatTracksModel", "takesTrain", "()Z"⟩, 15), (⟨"ThroatTracksModel", "takesPair", "()Z"⟩, 15), (⟨"ThroatTracksModel", "takesGap", "()Z"⟩, 15), (⟨"ThroatTracksModel", "isTrack", "(I)Z"⟩, 15), (⟨"ThroatTracksModel", "routeOf", "(II)I"⟩, 15), (⟨"ThroatTracksModel", "isTrain", "(I)Z"⟩, 15), (⟨"ThroatTracksModel", "of", "(II)I"⟩, 15), (⟨"ThroatTracksModel", "fits", "(I)I"⟩, 15), (⟨"ThroatTracksModel", "doesFit", "(II)Z"⟩, 15), (⟨"ThroatTracksModel", "wayIn", "(II)I"⟩, 15), (⟨"ThroatTracksModel", "wayOut", "(II)I"⟩, 15), (⟨"ThroatTracksModel", "hardOf", "(I)I"⟩, 15)]
theorem lw_r2 : ∀ q ∈ lw_privs_2, lw_okq q := List.forall_mem_cons.mpr ⟨lw_p16, List.forall_mem_cons.mpr ⟨lw_p17, List.forall_mem_cons.mpr ⟨lw_p18, List.forall_mem_cons.mpr ⟨lw_p19, List.forall_mem_cons.mpr ⟨lw_p20, List.forall_mem_cons.mpr ⟨lw_p21, List.forall_mem_cons.mpr ⟨lw_p22, List.forall_mem_cons.mpr ⟨lw_p23, List.forall_mem_cons.mpr ⟨lw_p24, List.forall_mem_cons.mpr ⟨lw_p25, List.forall_mem_cons.mpr ⟨lw_p26, List.forall_mem_cons.mpr ⟨lw_p27, List.forall_mem_cons.mpr ⟨lw_p28, List.forall_mem_cons.mpr ⟨lw_p29, List.forall_mem_cons.mpr ⟨lw_p30, List.forall_mem_cons.mpr ⟨lw_p31, fun _ h => absurd h List.not_mem_nil⟩⟩⟩⟩⟩⟩⟩⟩⟩⟩⟩⟩⟩⟩⟩⟩
theorem lw_p32 : lw_okq (⟨"ThroatTracksModel", "whyNot", "(II)I"⟩, 15) := ⟨⟨by decide +kernel, by decide +kernel⟩, List.mem_of_getElem? (i := 613) (by decide +kernel), List.mem_of_getElem? (i := 789) (by decide +kernel), List.mem_of_getElem? (i := 790) (by decide +kernel)⟩
theorem lw_p33 : lw_okq (⟨"ThroatTracksModel", "clashing", "(II)I"⟩, 15) := ⟨⟨by decide +kernel, by decide +kernel⟩, List.mem_of_getElem? (i := 613) (by decide +kernel), List.mem_of_getElem? (i := 793) (by decide +kernel), List.mem_of_getElem? (i := 794) (by decide +kernel)⟩
theorem lw_p34 : lw_okq (⟨"ThroatTracksModel", "clashOf", "(IIII)I"⟩, 15) := ⟨⟨by decide +kernel, by decide +kernel⟩, List.mem_of_getElem? (i := 613) (by decide +kernel), List.mem_of_getElem? (i := 797) (by decide +kernel), List.mem_of_getElem? (i := 798) (by decide +kernel)⟩
theorem lw_p35 : lw_okq (⟨"ThroatTracksModel", "keeps", "()V"⟩, 15) := ⟨⟨by decide +kernel, by decide +kernel⟩, List.mem_of_getElem? (i := 613) (by decide +kernel), List.mem_of_getElem? (i := 808) (by decide +kernel), List.mem_of_getElem? (i := 809) (by decide +kernel)⟩
theorem lw_p36 : lw_okq (⟨"ThroatTracksModel", "becomes", "(III)V"⟩, 15) := ⟨⟨by decide +kernel, by decide +kernel⟩, List.mem_of_getElem? (i := 613) (by decide +kernel), List.mem_of_getElem? (i := 812) (by decide +kernel), List.mem_of_getElem? (i := 813) (by decide +kernel)⟩
theorem lw_p37 : lw_okq (⟨"ThroatTracksModel", "placed", "()I"⟩, 15) := ⟨⟨by decide +kernel, by decide +kernel⟩, List.mem_of_getElem? (i := 613) (by decide +kernel), List.mem_of_getElem? (i := 816) (by decide +kernel), List.mem_of_getElem? (i := 817) (by decide +kernel)⟩
theorem lw_p38 : lw_okq (⟨"ThroatTracksModel", "findsWay", "(II)V"⟩, 15) := ⟨⟨by decide +kernel, by decide +kernel⟩, List.mem_of_getElem? (i := 613) (by decide +kernel), List.mem_of_getElem? (i := 844) (by decide +kernel), List.mem_of_getElem? (i := 845) (by decide +kernel)⟩
theorem lw_p39 : lw_okq (⟨"ThroatTracksModel", "laysClashes", "(I)V"⟩, 15) := ⟨⟨by decide +kernel, by decide +kernel⟩, List.mem_of_getElem? (i := 613) (by decide +kernel), List.mem_of_getElem? (i := 848) (by decide +kernel), List.mem_of_getElem? (i := 849) (by decide +kernel)⟩
theorem lw_p40 : lw_okq (⟨"ThroatTracksModel", "takesIfBetter", "(I)V"⟩, 15) := ⟨⟨by decide +kernel, by decide +kernel⟩, List.mem_of_getElem? (i := 613) (by decide +kernel), List.mem_of_getElem? (i := 852) (by decide +kernel), List.mem_of_getElem? (i := 853) (by decide +kernel)⟩
theorem lw_p41 : lw_okq (⟨"ThroatTracksModel", "noneOf", "(I)I"⟩, 15) := ⟨⟨by decide +kernel, by decide +kernel⟩, List.mem_of_getElem? (i := 613) (by decide +kernel), List.mem_of_getElem? (i := 856) (by decide +kernel), List.mem_of_getElem? (i := 857) (by decide +kernel)⟩
theorem lw_p42 : lw_okq (⟨"ThroatTracksModel", "like", "(II)I"⟩, 15) := ⟨⟨by decide +kernel, by decide +kernel⟩, List.mem_of_getElem? (i := 613) (by decide +kernel), List.mem_of_getElem? (i := 860) (by decide +kernel), List.mem_of_getElem? (i := 861) (by decide +kernel)⟩
theorem lw_p43 : lw_okq (⟨"ThroatTracksModel", "may", "(II)Z"⟩, 15) := ⟨⟨by decide +kernel, by decide +kernel⟩, List.mem_of_getElem? (i := 613) (by decide +kernel), List.mem_of_getElem? (i := 867) (by decide +kernel), List.mem_of_getElem? (i := 868) (by decide +kernel)⟩
theorem lw_p44 : lw_okq (⟨"ThroatTracksModel", "isWorth", "(II)Z"⟩, 15) := ⟨⟨by decide +kernel, by decide +kernel⟩, List.mem_of_getElem? (i := 613) (by decide +kernel), List.mem_of_getElem? (i := 871) (by decide +kernel), List.mem_of_getElem? (i := 872) (by decide +kernel)⟩
theorem lw_p45 : lw_okq (⟨"ThroatTracksModel", "wished", "()I"⟩, 15) := ⟨⟨by decide +kernel, by decide +kernel⟩, List.mem_of_getElem? (i := 613) (by decide +kernel), List.mem_of_getElem? (i := 875) (by decide +kernel), List.mem_of_getElem? (i := 876) (by decide +kernel)⟩
theorem lw_p46 : lw_okq (⟨"ThroatTracksModel", "otherwise", "()I"⟩, 15) := ⟨⟨by decide +kernel, by decide +kernel⟩, List.mem_of_getElem? (i := 613) (by decide +kernel), List.mem_of_getElem? (i := 879) (by decide +kernel), List.mem_of_getElem? (i := 880) (by decide +kernel)⟩
theorem lw_p47 : lw_okq (⟨"ThroatTracksModel", "onTrack", "(II)I"⟩, 15) := ⟨⟨by decide +kernel, by decide +kernel⟩, List.mem_of_getElem? (i := 613) (by decide +kernel), List.mem_of_getElem? (i := 895) (by decide +kernel), List.mem_of_getElem? (i := 896) (by decide +kernel)⟩
def lw_privs_3 : List (MethodName × Nat) := [(⟨"ThroatTracksModel", "whyNot", "(II)I"⟩, 15), (⟨"ThroatTracksModel", "clashing", "(II)I"⟩, 15), (⟨"ThroatTracksModel", "clashOf", "(IIII)I"⟩, 15), (⟨"ThroatTracksModel", "keeps", "()V"⟩, 15), (⟨"ThroatTracksModel", "becomes", "(III)V"⟩, 15), (⟨"ThroatTracksModel", "placed", "()I"⟩, 15), (⟨"ThroatTracksModel", "findsWay", "(II)V"⟩, 15), (⟨"ThroatTracksModel", "laysClashes", "(I)V"⟩, 15), (⟨"ThroatTracksModel", "takesIfBetter", "(I)V"⟩, 15), (⟨"ThroatTracksModel", "noneOf", "(I)I"⟩, 15), (⟨"ThroatTracksModel", "like", "(II)I"⟩, 15), (⟨"ThroatTracksModel", "may", "(II)Z"⟩, 15), (⟨"ThroatTracksModel", "isWorth", "(II)Z"⟩, 15), (⟨"ThroatTracksModel", "wished", "()I"⟩, 15), (⟨"ThroatTracksModel", "otherwise", "()I"⟩, 15), (⟨"ThroatTracksModel", "onTrack", "(II)I"⟩, 15)]
theorem lw_r3 : ∀ q ∈ lw_privs_3, lw_okq q := List.forall_mem_cons.mpr ⟨lw_p32, List.forall_mem_cons.mpr ⟨lw_p33, List.forall_mem_cons.mpr ⟨lw_p34, List.forall_mem_cons.mpr ⟨lw_p35, List.forall_mem_cons.mpr ⟨lw_p36, List.forall_mem_cons.mpr ⟨lw_p37, List.forall_mem_cons.mpr ⟨lw_p38, List.forall_mem_cons.mpr ⟨lw_p39, List.forall_mem_cons.mpr ⟨lw_p40, List.forall_mem_cons.mpr ⟨lw_p41, List.forall_mem_cons.mpr ⟨lw_p42, List.forall_mem_cons.mpr ⟨lw_p43, List.forall_mem_cons.mpr ⟨lw_p44, List.forall_mem_cons.mpr ⟨lw_p45, List.forall_mem_cons.mpr ⟨lw_p46, List.forall_mem_cons.mpr ⟨lw_p47, fun _ h => absurd h List.not_mem_nil⟩⟩⟩⟩⟩⟩⟩⟩⟩⟩⟩⟩⟩⟩⟩⟩
theorem lw_p48 : lw_okq (⟨"ThroatTracksModel", "takenIn", "(I)I"⟩, 15) := ⟨⟨by decide +kernel, by decide +kernel⟩, List.mem_of_getElem? (i := 613) (by decide +kernel), List.mem_of_getElem? (i := 903) (by decide +kernel), List.mem_of_getElem? (i := 904) (by decide +kernel)⟩
theorem lw_p49 : lw_okq (⟨"ThroatTracksModel", "asWished", "()I"⟩, 15) := ⟨⟨by decide +kernel, by decide +kernel⟩, List.mem_of_getElem? (i := 613) (by decide +kernel), List.mem_of_getElem? (i := 915) (by decide +kernel), List.mem_of_getElem? (i := 916) (by decide +kernel)⟩
def lw_privs_4 : List (MethodName × Nat) := [(⟨"ThroatTracksModel", "takenIn", "(I)I"⟩, 15), (⟨"ThroatTracksModel", "asWished", "()I"⟩, 15)]
theorem lw_r4 : ∀ q ∈ lw_privs_4, lw_okq q := List.forall_mem_cons.mpr ⟨lw_p48, List.forall_mem_cons.mpr ⟨lw_p49, fun _ h => absurd h List.not_mem_nil⟩⟩
def lw_privs : List (MethodName × Nat) := lw_privs_1 ++ (lw_privs_2 ++ (lw_privs_3 ++ (lw_privs_4)))
def lw_tbl : List Cond := k2_sels lw_privs ++ tables_1
theorem lw_privs_ok : ∀ q ∈ lw_privs, lw_okq q := by
  show ∀ q ∈ lw_privs_1 ++ (lw_privs_2 ++ (lw_privs_3 ++ (lw_privs_4))), lw_okq q
  exact List.forall_mem_append.mpr ⟨lw_r1, List.forall_mem_append.mpr ⟨lw_r2, List.forall_mem_append.mpr ⟨lw_r3, lw_r4⟩⟩⟩
def RX0 : String := "ThroatTracks$Clashes"
def TX0 : u_T := fun k => match k with
  | 0 => ("ThroatTracks$Clashes", "yard", "LThroatTracks$Yard;", true)
  | 1 => ("ThroatTracks$Clashes", "plan", "LThroatTracks$Plan;", true)
  | _ => ("ThroatTracks$Clashes", "against", "[I", true)
def tyX0 : Nat → FieldType := fun k => match k with
  | 0 => .object "ThroatTracks$Yard"
  | 1 => .object "ThroatTracks$Plan"
  | _ => .array .int
theorem nmX0 : ∀ a, a < 3 → ∀ b, b < 3 → a ≠ b → (TX0 a).2.1 ≠ (TX0 b).2.1 := by decide +kernel
theorem tyX0_ok : ∀ k, k < 3 → parseFieldDescriptor (TX0 k).2.2.1 = some (tyX0 k) := by decide +kernel
abbrev cX0_init : ByteArray := prog_2_method_1_code
def yX0_init : MethodName := ⟨RX0, "<init>", "(LThroatTracks$Yard;LThroatTracks$Plan;)V"⟩
abbrev cX0_seat : ByteArray := prog_2_method_2_code
def yX0_seat : MethodName := ⟨RX0, "seat", "(II)I"⟩
abbrev cX0_workOut : ByteArray := prog_2_method_3_code
def yX0_workOut : MethodName := ⟨RX0, "workOut", "()V"⟩
abbrev cX0_seatsAgainst : ByteArray := prog_2_method_4_code
def yX0_seatsAgainst : MethodName := ⟨RX0, "seatsAgainst", "(II)I"⟩
abbrev cX0_kind : ByteArray := prog_2_method_5_code
def yX0_kind : MethodName := ⟨RX0, "kind", "(IIII)I"⟩
abbrev cX0_isBehind : ByteArray := prog_2_method_6_code
def yX0_isBehind : MethodName := ⟨RX0, "isBehind", "(II)Z"⟩
abbrev cX0_shareSwitch : ByteArray := prog_2_method_7_code
def yX0_shareSwitch : MethodName := ⟨RX0, "shareSwitch", "(IIII)Z"⟩
abbrev cX0_meet : ByteArray := prog_2_method_8_code
def yX0_meet : MethodName := ⟨RX0, "meet", "(III)Z"⟩
abbrev cX0_firstAgainst : ByteArray := prog_2_method_9_code
def yX0_firstAgainst : MethodName := ⟨RX0, "firstAgainst", "(II)I"⟩
abbrev cX0_isFree : ByteArray := prog_2_method_10_code
def yX0_isFree : MethodName := ⟨RX0, "isFree", "(II)Z"⟩
abbrev cX0_freeTracks : ByteArray := prog_2_method_11_code
def yX0_freeTracks : MethodName := ⟨RX0, "freeTracks", "(I)I"⟩
def RX1 : String := "ThroatTracks$Past"
def TX1 : u_T := fun k => match k with
  | 0 => ("ThroatTracks$Past", "kept", "[LThroatTracks$Plan;", true)
  | 1 => ("ThroatTracks$Past", "next", "I", false)
  | _ => ("ThroatTracks$Past", "size", "I", false)
def tyX1 : Nat → FieldType := fun k => match k with
  | 0 => .array (.object "ThroatTracks$Plan")
  | 1 => .int
  | _ => .int
theorem nmX1 : ∀ a, a < 3 → ∀ b, b < 3 → a ≠ b → (TX1 a).2.1 ≠ (TX1 b).2.1 := by decide +kernel
theorem tyX1_ok : ∀ k, k < 3 → parseFieldDescriptor (TX1 k).2.2.1 = some (tyX1 k) := by decide +kernel
abbrev cX1_init : ByteArray := prog_3_method_1_code
def yX1_init : MethodName := ⟨RX1, "<init>", "()V"⟩
abbrev cX1_keep : ByteArray := prog_3_method_2_code
def yX1_keep : MethodName := ⟨RX1, "keep", "(LThroatTracks$Plan;)V"⟩
abbrev cX1_bringBack : ByteArray := prog_3_method_3_code
def yX1_bringBack : MethodName := ⟨RX1, "bringBack", "(LThroatTracks$Plan;)V"⟩
def RX2 : String := "ThroatTracks$Plan"
def TX2 : u_T := fun k => match k with
  | 0 => ("ThroatTracks$Plan", "arrives", "[I", true)
  | 1 => ("ThroatTracks$Plan", "leaves", "[I", true)
  | 2 => ("ThroatTracks$Plan", "wished", "[I", true)
  | _ => ("ThroatTracks$Plan", "placed", "[I", true)
def tyX2 : Nat → FieldType := fun k => match k with
  | 0 => .array .int
  | 1 => .array .int
  | 2 => .array .int
  | _ => .array .int
theorem nmX2 : ∀ a, a < 4 → ∀ b, b < 4 → a ≠ b → (TX2 a).2.1 ≠ (TX2 b).2.1 := by decide +kernel
theorem tyX2_ok : ∀ k, k < 4 → parseFieldDescriptor (TX2 k).2.2.1 = some (tyX2 k) := by decide +kernel
abbrev cX2_init : ByteArray := prog_4_method_1_code
def yX2_init : MethodName := ⟨RX2, "<init>", "()V"⟩
abbrev cX2_copy : ByteArray := prog_4_method_2_code
def yX2_copy : MethodName := ⟨RX2, "copy", "(LThroatTracks$Plan;)V"⟩
abbrev cX2_comesIn : ByteArray := prog_4_method_3_code
def yX2_comesIn : MethodName := ⟨RX2, "comesIn", "(II)Z"⟩
abbrev cX2_goesOut : ByteArray := prog_4_method_4_code
def yX2_goesOut : MethodName := ⟨RX2, "goesOut", "(II)Z"⟩
def RX3 : String := "ThroatTracks$Reader"
def TX3 : u_T := fun k => match k with
  | 0 => ("ThroatTracks$Reader", "text", "LThroatTracks$Text;", true)
  | 1 => ("ThroatTracks$Reader", "yard", "LThroatTracks$Yard;", true)
  | 2 => ("ThroatTracks$Reader", "plan", "LThroatTracks$Plan;", true)
  | 3 => ("ThroatTracks$Reader", "numbers", "[I", true)
  | _ => ("ThroatTracks$Reader", "size", "I", false)
def tyX3 : Nat → FieldType := fun k => match k with
  | 0 => .object "ThroatTracks$Text"
  | 1 => .object "ThroatTracks$Yard"
  | 2 => .object "ThroatTracks$Plan"
  | 3 => .array .int
  | _ => .int
theorem nmX3 : ∀ a, a < 5 → ∀ b, b < 5 → a ≠ b → (TX3 a).2.1 ≠ (TX3 b).2.1 := by decide +kernel
theorem tyX3_ok : ∀ k, k < 5 → parseFieldDescriptor (TX3 k).2.2.1 = some (tyX3 k) := by decide +kernel
abbrev cX3_init : ByteArray := prog_5_method_1_code
def yX3_init : MethodName := ⟨RX3, "<init>", "(LThroatTracks$Text;LThroatTracks$Yard;LThroatTracks$Plan;)V"⟩
abbrev cX3_firstFault : ByteArray := prog_5_method_2_code
def yX3_firstFault : MethodName := ⟨RX3, "firstFault", "()I"⟩
abbrev cX3_wordAt : ByteArray := prog_5_method_3_code
def yX3_wordAt : MethodName := ⟨RX3, "wordAt", "(I)I"⟩
abbrev cX3_readNumbers : ByteArray := prog_5_method_4_code
def yX3_readNumbers : MethodName := ⟨RX3, "readNumbers", "(I)I"⟩
abbrev cX3_isFigure : ByteArray := prog_5_method_5_code
def yX3_isFigure : MethodName := ⟨RX3, "isFigure", "(I)Z"⟩
abbrev cX3_isTold : ByteArray := prog_5_method_6_code
def yX3_isTold : MethodName := ⟨RX3, "isTold", "(I)Z"⟩
abbrev cX3_tellYard : ByteArray := prog_5_method_7_code
def yX3_tellYard : MethodName := ⟨RX3, "tellYard", "()Z"⟩
abbrev cX3_tellPath : ByteArray := prog_5_method_8_code
def yX3_tellPath : MethodName := ⟨RX3, "tellPath", "()Z"⟩
abbrev cX3_tellTrain : ByteArray := prog_5_method_9_code
def yX3_tellTrain : MethodName := ⟨RX3, "tellTrain", "()Z"⟩
abbrev cX3_isTrain : ByteArray := prog_5_method_10_code
def yX3_isTrain : MethodName := ⟨RX3, "isTrain", "()Z"⟩
abbrev cX3_tellPair : ByteArray := prog_5_method_11_code
def yX3_tellPair : MethodName := ⟨RX3, "tellPair", "()Z"⟩
abbrev cX3_tellGap : ByteArray := prog_5_method_12_code
def yX3_tellGap : MethodName := ⟨RX3, "tellGap", "()Z"⟩
def RX4 : String := "ThroatTracks$Search"
def TX4 : u_T := fun k => match k with
  | 0 => ("ThroatTracks$Search", "yard", "LThroatTracks$Yard;", true)
  | 1 => ("ThroatTracks$Search", "plan", "LThroatTracks$Plan;", true)
  | 2 => ("ThroatTracks$Search", "clashes", "LThroatTracks$Clashes;", true)
  | 3 => ("ThroatTracks$Search", "costs", "[I", true)
  | 4 => ("ThroatTracks$Search", "atLeast", "[I", true)
  | 5 => ("ThroatTracks$Search", "trial", "[I", true)
  | 6 => ("ThroatTracks$Search", "found", "[I", true)
  | _ => ("ThroatTracks$Search", "leastCost", "I", false)
def tyX4 : Nat → FieldType := fun k => match k with
  | 0 => .object "ThroatTracks$Yard"
  | 1 => .object "ThroatTracks$Plan"
  | 2 => .object "ThroatTracks$Clashes"
  | 3 => .array .int
  | 4 => .array .int
  | 5 => .array .int
  | 6 => .array .int
  | _ => .int
theorem nmX4 : ∀ a, a < 8 → ∀ b, b < 8 → a ≠ b → (TX4 a).2.1 ≠ (TX4 b).2.1 := by decide +kernel
theorem tyX4_ok : ∀ k, k < 8 → parseFieldDescriptor (TX4 k).2.2.1 = some (tyX4 k) := by decide +kernel
abbrev cX4_init : ByteArray := prog_6_method_1_code
def yX4_init : MethodName := ⟨RX4, "<init>", "(LThroatTracks$Yard;LThroatTracks$Plan;LThroatTracks$Clashes;)V"⟩
abbrev cX4_find : ByteArray := prog_6_method_2_code
def yX4_find : MethodName := ⟨RX4, "find", "(I)V"⟩
abbrev cX4_findAvoiding : ByteArray := prog_6_method_3_code
def yX4_findAvoiding : MethodName := ⟨RX4, "findAvoiding", "(I)V"⟩
abbrev cX4_trackless : ByteArray := prog_6_method_4_code
def yX4_trackless : MethodName := ⟨RX4, "trackless", "()I"⟩
abbrev cX4_weigh : ByteArray := prog_6_method_5_code
def yX4_weigh : MethodName := ⟨RX4, "weigh", "(II)V"⟩
abbrev cX4_costOf : ByteArray := prog_6_method_6_code
def yX4_costOf : MethodName := ⟨RX4, "costOf", "(II)I"⟩
abbrev cX4_start : ByteArray := prog_6_method_7_code
def yX4_start : MethodName := ⟨RX4, "start", "()V"⟩
abbrev cX4_seek : ByteArray := prog_6_method_8_code
def yX4_seek : MethodName := ⟨RX4, "seek", "(III)V"⟩
abbrev cX4_keepIfLess : ByteArray := prog_6_method_9_code
def yX4_keepIfLess : MethodName := ⟨RX4, "keepIfLess", "(I)V"⟩
def RX5 : String := "ThroatTracks$Text"
def TX5 : u_T := fun k => match k with
  | 0 => ("ThroatTracks$Text", "letters", "[C", true)
  | _ => ("ThroatTracks$Text", "length", "I", false)
def tyX5 : Nat → FieldType := fun k => match k with
  | 0 => .array .char
  | _ => .int
theorem nmX5 : ∀ a, a < 2 → ∀ b, b < 2 → a ≠ b → (TX5 a).2.1 ≠ (TX5 b).2.1 := by decide +kernel
theorem tyX5_ok : ∀ k, k < 2 → parseFieldDescriptor (TX5 k).2.2.1 = some (tyX5 k) := by decide +kernel
abbrev cX5_init : ByteArray := prog_7_method_1_code
def yX5_init : MethodName := ⟨RX5, "<init>", "()V"⟩
abbrev cX5_append : ByteArray := prog_7_method_2_code
def yX5_append : MethodName := ⟨RX5, "append", "(I)Z"⟩
abbrev cX5_letterAt : ByteArray := prog_7_method_3_code
def yX5_letterAt : MethodName := ⟨RX5, "letterAt", "(I)I"⟩
def RX6 : String := "ThroatTracks$Yard"
def TX6 : u_T := fun k => match k with
  | 0 => ("ThroatTracks$Yard", "lines", "I", false)
  | 1 => ("ThroatTracks$Yard", "tracks", "I", false)
  | 2 => ("ThroatTracks$Yard", "trains", "I", false)
  | 3 => ("ThroatTracks$Yard", "gap", "I", false)
  | 4 => ("ThroatTracks$Yard", "routes", "[I", true)
  | 5 => ("ThroatTracks$Yard", "lineIn", "[I", true)
  | 6 => ("ThroatTracks$Yard", "lineOut", "[I", true)
  | _ => ("ThroatTracks$Yard", "mate", "[I", true)
def tyX6 : Nat → FieldType := fun k => match k with
  | 0 => .int
  | 1 => .int
  | 2 => .int
  | 3 => .int
  | 4 => .array .int
  | 5 => .array .int
  | 6 => .array .int
  | _ => .array .int
theorem nmX6 : ∀ a, a < 8 → ∀ b, b < 8 → a ≠ b → (TX6 a).2.1 ≠ (TX6 b).2.1 := by decide +kernel
theorem tyX6_ok : ∀ k, k < 8 → parseFieldDescriptor (TX6 k).2.2.1 = some (tyX6 k) := by decide +kernel
abbrev cX6_init : ByteArray := prog_8_method_1_code
def yX6_init : MethodName := ⟨RX6, "<init>", "()V"⟩
abbrev cX6_clear : ByteArray := prog_8_method_2_code
def yX6_clear : MethodName := ⟨RX6, "clear", "()V"⟩
abbrev cX6_hasLine : ByteArray := prog_8_method_3_code
def yX6_hasLine : MethodName := ⟨RX6, "hasLine", "(I)Z"⟩
abbrev cX6_hasTrack : ByteArray := prog_8_method_4_code
def yX6_hasTrack : MethodName := ⟨RX6, "hasTrack", "(I)Z"⟩
abbrev cX6_hasTrain : ByteArray := prog_8_method_5_code
def yX6_hasTrain : MethodName := ⟨RX6, "hasTrain", "(I)Z"⟩
abbrev cX6_switchesOf : ByteArray := prog_8_method_6_code
def yX6_switchesOf : MethodName := ⟨RX6, "switchesOf", "(II)I"⟩
abbrev cX6_routeIn : ByteArray := prog_8_method_7_code
def yX6_routeIn : MethodName := ⟨RX6, "routeIn", "(II)I"⟩
abbrev cX6_routeOut : ByteArray := prog_8_method_8_code
def yX6_routeOut : MethodName := ⟨RX6, "routeOut", "(II)I"⟩
abbrev cX6_fits : ByteArray := prog_8_method_9_code
def yX6_fits : MethodName := ⟨RX6, "fits", "(II)Z"⟩
abbrev cX6_areCoupled : ByteArray := prog_8_method_10_code
def yX6_areCoupled : MethodName := ⟨RX6, "areCoupled", "(II)Z"⟩
def RX7 : String := "ThroatTracks"
def TX7 : u_T := fun k => match k with
  | 0 => ("ThroatTracks", "text", "LThroatTracks$Text;", true)
  | 1 => ("ThroatTracks", "yard", "LThroatTracks$Yard;", true)
  | 2 => ("ThroatTracks", "plan", "LThroatTracks$Plan;", true)
  | 3 => ("ThroatTracks", "reader", "LThroatTracks$Reader;", true)
  | 4 => ("ThroatTracks", "proof", "LThroatTracks$Reader;", true)
  | 5 => ("ThroatTracks", "clashes", "LThroatTracks$Clashes;", true)
  | 6 => ("ThroatTracks", "search", "LThroatTracks$Search;", true)
  | _ => ("ThroatTracks", "past", "LThroatTracks$Past;", true)
def tyX7 : Nat → FieldType := fun k => match k with
  | 0 => .object "ThroatTracks$Text"
  | 1 => .object "ThroatTracks$Yard"
  | 2 => .object "ThroatTracks$Plan"
  | 3 => .object "ThroatTracks$Reader"
  | 4 => .object "ThroatTracks$Reader"
  | 5 => .object "ThroatTracks$Clashes"
  | 6 => .object "ThroatTracks$Search"
  | _ => .object "ThroatTracks$Past"
theorem nmX7 : ∀ a, a < 8 → ∀ b, b < 8 → a ≠ b → (TX7 a).2.1 ≠ (TX7 b).2.1 := by decide +kernel
theorem tyX7_ok : ∀ k, k < 8 → parseFieldDescriptor (TX7 k).2.2.1 = some (tyX7 k) := by decide +kernel
abbrev cX7_init : ByteArray := prog_1_method_1_code
def yX7_init : MethodName := ⟨RX7, "<init>", "()V"⟩
abbrev cX7_write : ByteArray := prog_1_method_2_code
def yX7_write : MethodName := ⟨RX7, "write", "(I)I"⟩
abbrev cX7_wipe : ByteArray := prog_1_method_3_code
def yX7_wipe : MethodName := ⟨RX7, "wipe", "()I"⟩
abbrev cX7_fault : ByteArray := prog_1_method_4_code
def yX7_fault : MethodName := ⟨RX7, "fault", "()I"⟩
abbrev cX7_lay : ByteArray := prog_1_method_5_code
def yX7_lay : MethodName := ⟨RX7, "lay", "()I"⟩
abbrev cX7_route : ByteArray := prog_1_method_6_code
def yX7_route : MethodName := ⟨RX7, "route", "(II)I"⟩
abbrev cX7_train : ByteArray := prog_1_method_7_code
def yX7_train : MethodName := ⟨RX7, "train", "(II)I"⟩
abbrev cX7_fittingTracks : ByteArray := prog_1_method_8_code
def yX7_fittingTracks : MethodName := ⟨RX7, "fittingTracks", "(I)I"⟩
abbrev cX7_give : ByteArray := prog_1_method_9_code
def yX7_give : MethodName := ⟨RX7, "give", "(II)I"⟩
abbrev cX7_take : ByteArray := prog_1_method_10_code
def yX7_take : MethodName := ⟨RX7, "take", "(I)I"⟩
abbrev cX7_why : ByteArray := prog_1_method_11_code
def yX7_why : MethodName := ⟨RX7, "why", "(II)I"⟩
abbrev cX7_clash : ByteArray := prog_1_method_12_code
def yX7_clash : MethodName := ⟨RX7, "clash", "(IIII)I"⟩
abbrev cX7_late : ByteArray := prog_1_method_13_code
def yX7_late : MethodName := ⟨RX7, "late", "(II)I"⟩
abbrev cX7_wish : ByteArray := prog_1_method_14_code
def yX7_wish : MethodName := ⟨RX7, "wish", "(II)I"⟩
abbrev cX7_way : ByteArray := prog_1_method_15_code
def yX7_way : MethodName := ⟨RX7, "way", "(II)I"⟩
abbrev cX7_adopt : ByteArray := prog_1_method_16_code
def yX7_adopt : MethodName := ⟨RX7, "adopt", "(I)I"⟩
abbrev cX7_without : ByteArray := prog_1_method_17_code
def yX7_without : MethodName := ⟨RX7, "without", "(I)I"⟩
abbrev cX7_undo : ByteArray := prog_1_method_18_code
def yX7_undo : MethodName := ⟨RX7, "undo", "()I"⟩
abbrev cX7_on : ByteArray := prog_1_method_19_code
def yX7_on : MethodName := ⟨RX7, "on", "(II)I"⟩
abbrev cX7_taken : ByteArray := prog_1_method_20_code
def yX7_taken : MethodName := ⟨RX7, "taken", "(I)I"⟩
abbrev cX7_use : ByteArray := prog_1_method_21_code
def yX7_use : MethodName := ⟨RX7, "use", "(II)I"⟩
abbrev cX7_count : ByteArray := prog_1_method_22_code
def yX7_count : MethodName := ⟨RX7, "count", "(I)I"⟩
abbrev cX7_placedTrains : ByteArray := prog_1_method_23_code
def yX7_placedTrains : MethodName := ⟨RX7, "placedTrains", "()I"⟩
abbrev cX7_wishesMet : ByteArray := prog_1_method_24_code
def yX7_wishesMet : MethodName := ⟨RX7, "wishesMet", "([I)I"⟩
abbrev cX7_movedBy : ByteArray := prog_1_method_25_code
def yX7_movedBy : MethodName := ⟨RX7, "movedBy", "([I)I"⟩
abbrev cX7_trainsOn : ByteArray := prog_1_method_26_code
def yX7_trainsOn : MethodName := ⟨RX7, "trainsOn", "(II)I"⟩
abbrev cX7_switchesIn : ByteArray := prog_1_method_27_code
def yX7_switchesIn : MethodName := ⟨RX7, "switchesIn", "(I)I"⟩
abbrev cX7_minutesOfTrack : ByteArray := prog_1_method_28_code
def yX7_minutesOfTrack : MethodName := ⟨RX7, "minutesOfTrack", "(I)I"⟩
abbrev cX7_minutesOfSwitch : ByteArray := prog_1_method_29_code
def yX7_minutesOfSwitch : MethodName := ⟨RX7, "minutesOfSwitch", "(I)I"⟩
def RX8 : String := "ThroatTracksModel"
def TX8 : u_T := fun k => match k with
  | 0 => ("ThroatTracksModel", "now", "[I", true)
  | 1 => ("ThroatTracksModel", "read", "[I", true)
  | 2 => ("ThroatTracksModel", "past", "[I", true)
  | 3 => ("ThroatTracksModel", "changes", "I", false)
  | 4 => ("ThroatTracksModel", "text", "[I", true)
  | 5 => ("ThroatTracksModel", "letters", "I", false)
  | 6 => ("ThroatTracksModel", "spot", "I", false)
  | 7 => ("ThroatTracksModel", "told", "[I", true)
  | 8 => ("ThroatTracksModel", "many", "I", false)
  | 9 => ("ThroatTracksModel", "canHave", "[Z", true)
  | 10 => ("ThroatTracksModel", "clashes", "[Z", true)
  | 11 => ("ThroatTracksModel", "tried", "[I", true)
  | 12 => ("ThroatTracksModel", "found", "[I", true)
  | 13 => ("ThroatTracksModel", "foundNone", "I", false)
  | _ => ("ThroatTracksModel", "foundLike", "I", false)
def tyX8 : Nat → FieldType := fun k => match k with
  | 0 => .array .int
  | 1 => .array .int
  | 2 => .array .int
  | 3 => .int
  | 4 => .array .int
  | 5 => .int
  | 6 => .int
  | 7 => .array .int
  | 8 => .int
  | 9 => .array .boolean
  | 10 => .array .boolean
  | 11 => .array .int
  | 12 => .array .int
  | 13 => .int
  | _ => .int
theorem nmX8 : ∀ a, a < 15 → ∀ b, b < 15 → a ≠ b → (TX8 a).2.1 ≠ (TX8 b).2.1 := by decide +kernel
theorem tyX8_ok : ∀ k, k < 15 → parseFieldDescriptor (TX8 k).2.2.1 = some (tyX8 k) := by decide +kernel
abbrev cX8_init : ByteArray := prog_10_method_1_code
def yX8_init : MethodName := ⟨RX8, "<init>", "()V"⟩
abbrev cX8_in : ByteArray := prog_10_method_3_code
def yX8_in : MethodName := ⟨RX8, "in", "(III)Z"⟩
abbrev cX8_begins : ByteArray := prog_10_method_4_code
def yX8_begins : MethodName := ⟨RX8, "begins", "()V"⟩
abbrev cX8_comes : ByteArray := prog_10_method_5_code
def yX8_comes : MethodName := ⟨RX8, "comes", "(IIIII)V"⟩
abbrev cX8_takesAll : ByteArray := prog_10_method_6_code
def yX8_takesAll : MethodName := ⟨RX8, "takesAll", "()V"⟩
abbrev cX8_isAt : ByteArray := prog_10_method_7_code
def yX8_isAt : MethodName := ⟨RX8, "isAt", "(II)Z"⟩
abbrev cX8_isWord : ByteArray := prog_10_method_8_code
def yX8_isWord : MethodName := ⟨RX8, "isWord", "(IIII)Z"⟩
abbrev cX8_takesNumber : ByteArray := prog_10_method_9_code
def yX8_takesNumber : MethodName := ⟨RX8, "takesNumber", "()Z"⟩
abbrev cX8_takesNumbers : ByteArray := prog_10_method_10_code
def yX8_takesNumbers : MethodName := ⟨RX8, "takesNumbers", "(II)Z"⟩
abbrev cX8_takesYard : ByteArray := prog_10_method_11_code
def yX8_takesYard : MethodName := ⟨RX8, "takesYard", "()Z"⟩
abbrev cX8_takesPath : ByteArray := prog_10_method_12_code
def yX8_takesPath : MethodName := ⟨RX8, "takesPath", "()Z"⟩
abbrev cX8_takesTrain : ByteArray := prog_10_method_13_code
def yX8_takesTrain : MethodName := ⟨RX8, "takesTrain", "()Z"⟩
abbrev cX8_takesPair : ByteArray := prog_10_method_14_code
def yX8_takesPair : MethodName := ⟨RX8, "takesPair", "()Z"⟩
abbrev cX8_takesGap : ByteArray := prog_10_method_15_code
def yX8_takesGap : MethodName := ⟨RX8, "takesGap", "()Z"⟩
abbrev cX8_takesItem : ByteArray := prog_10_method_16_code
def yX8_takesItem : MethodName := ⟨RX8, "takesItem", "()Z"⟩
abbrev cX8_reads : ByteArray := prog_10_method_17_code
def yX8_reads : MethodName := ⟨RX8, "reads", "()I"⟩
abbrev cX8_write : ByteArray := prog_10_method_18_code
def yX8_write : MethodName := ⟨RX8, "write", "(I)I"⟩
abbrev cX8_wipe : ByteArray := prog_10_method_19_code
def yX8_wipe : MethodName := ⟨RX8, "wipe", "()I"⟩
abbrev cX8_fault : ByteArray := prog_10_method_20_code
def yX8_fault : MethodName := ⟨RX8, "fault", "()I"⟩
abbrev cX8_lay : ByteArray := prog_10_method_21_code
def yX8_lay : MethodName := ⟨RX8, "lay", "()I"⟩
abbrev cX8_keeps : ByteArray := prog_10_method_22_code
def yX8_keeps : MethodName := ⟨RX8, "keeps", "()V"⟩
abbrev cX8_undo : ByteArray := prog_10_method_23_code
def yX8_undo : MethodName := ⟨RX8, "undo", "()I"⟩
abbrev cX8_isTrack : ByteArray := prog_10_method_24_code
def yX8_isTrack : MethodName := ⟨RX8, "isTrack", "(I)Z"⟩
abbrev cX8_isTrain : ByteArray := prog_10_method_25_code
def yX8_isTrain : MethodName := ⟨RX8, "isTrain", "(I)Z"⟩
abbrev cX8_of : ByteArray := prog_10_method_26_code
def yX8_of : MethodName := ⟨RX8, "of", "(II)I"⟩
abbrev cX8_becomes : ByteArray := prog_10_method_27_code
def yX8_becomes : MethodName := ⟨RX8, "becomes", "(III)V"⟩
abbrev cX8_routeOf : ByteArray := prog_10_method_28_code
def yX8_routeOf : MethodName := ⟨RX8, "routeOf", "(II)I"⟩
abbrev cX8_route : ByteArray := prog_10_method_29_code
def yX8_route : MethodName := ⟨RX8, "route", "(II)I"⟩
abbrev cX8_wayIn : ByteArray := prog_10_method_30_code
def yX8_wayIn : MethodName := ⟨RX8, "wayIn", "(II)I"⟩
abbrev cX8_wayOut : ByteArray := prog_10_method_31_code
def yX8_wayOut : MethodName := ⟨RX8, "wayOut", "(II)I"⟩
abbrev cX8_doesFit : ByteArray := prog_10_method_32_code
def yX8_doesFit : MethodName := ⟨RX8, "doesFit", "(II)Z"⟩
abbrev cX8_meet : ByteArray := prog_10_method_33_code
def yX8_meet : MethodName := ⟨RX8, "meet", "(II)Z"⟩
abbrev cX8_clashOf : ByteArray := prog_10_method_34_code
def yX8_clashOf : MethodName := ⟨RX8, "clashOf", "(IIII)I"⟩
abbrev cX8_clashing : ByteArray := prog_10_method_35_code
def yX8_clashing : MethodName := ⟨RX8, "clashing", "(II)I"⟩
abbrev cX8_whyNot : ByteArray := prog_10_method_36_code
def yX8_whyNot : MethodName := ⟨RX8, "whyNot", "(II)I"⟩
abbrev cX8_fits : ByteArray := prog_10_method_37_code
def yX8_fits : MethodName := ⟨RX8, "fits", "(I)I"⟩
abbrev cX8_hardOf : ByteArray := prog_10_method_38_code
def yX8_hardOf : MethodName := ⟨RX8, "hardOf", "(I)I"⟩
abbrev cX8_train : ByteArray := prog_10_method_39_code
def yX8_train : MethodName := ⟨RX8, "train", "(II)I"⟩
abbrev cX8_placed : ByteArray := prog_10_method_40_code
def yX8_placed : MethodName := ⟨RX8, "placed", "()I"⟩
abbrev cX8_give : ByteArray := prog_10_method_41_code
def yX8_give : MethodName := ⟨RX8, "give", "(II)I"⟩
abbrev cX8_take : ByteArray := prog_10_method_42_code
def yX8_take : MethodName := ⟨RX8, "take", "(I)I"⟩
abbrev cX8_why : ByteArray := prog_10_method_43_code
def yX8_why : MethodName := ⟨RX8, "why", "(II)I"⟩
abbrev cX8_clash : ByteArray := prog_10_method_44_code
def yX8_clash : MethodName := ⟨RX8, "clash", "(IIII)I"⟩
abbrev cX8_late : ByteArray := prog_10_method_45_code
def yX8_late : MethodName := ⟨RX8, "late", "(II)I"⟩
abbrev cX8_wish : ByteArray := prog_10_method_46_code
def yX8_wish : MethodName := ⟨RX8, "wish", "(II)I"⟩
abbrev cX8_laysClashes : ByteArray := prog_10_method_47_code
def yX8_laysClashes : MethodName := ⟨RX8, "laysClashes", "(I)V"⟩
abbrev cX8_may : ByteArray := prog_10_method_48_code
def yX8_may : MethodName := ⟨RX8, "may", "(II)Z"⟩
abbrev cX8_asTrack : ByteArray := prog_10_method_49_code
def yX8_asTrack : MethodName := ⟨RX8, "asTrack", "(I)I"⟩
abbrev cX8_like : ByteArray := prog_10_method_50_code
def yX8_like : MethodName := ⟨RX8, "like", "(II)I"⟩
abbrev cX8_noneOf : ByteArray := prog_10_method_51_code
def yX8_noneOf : MethodName := ⟨RX8, "noneOf", "(I)I"⟩
abbrev cX8_takesIfBetter : ByteArray := prog_10_method_52_code
def yX8_takesIfBetter : MethodName := ⟨RX8, "takesIfBetter", "(I)V"⟩
abbrev cX8_isWorth : ByteArray := prog_10_method_53_code
def yX8_isWorth : MethodName := ⟨RX8, "isWorth", "(II)Z"⟩
abbrev cX8_findsWay : ByteArray := prog_10_method_54_code
def yX8_findsWay : MethodName := ⟨RX8, "findsWay", "(II)V"⟩
abbrev cX8_otherwise : ByteArray := prog_10_method_55_code
def yX8_otherwise : MethodName := ⟨RX8, "otherwise", "()I"⟩
abbrev cX8_wished : ByteArray := prog_10_method_56_code
def yX8_wished : MethodName := ⟨RX8, "wished", "()I"⟩
abbrev cX8_way : ByteArray := prog_10_method_57_code
def yX8_way : MethodName := ⟨RX8, "way", "(II)I"⟩
abbrev cX8_adopt : ByteArray := prog_10_method_58_code
def yX8_adopt : MethodName := ⟨RX8, "adopt", "(I)I"⟩
abbrev cX8_without : ByteArray := prog_10_method_59_code
def yX8_without : MethodName := ⟨RX8, "without", "(I)I"⟩
abbrev cX8_onTrack : ByteArray := prog_10_method_60_code
def yX8_onTrack : MethodName := ⟨RX8, "onTrack", "(II)I"⟩
abbrev cX8_on : ByteArray := prog_10_method_61_code
def yX8_on : MethodName := ⟨RX8, "on", "(II)I"⟩
abbrev cX8_takenIn : ByteArray := prog_10_method_62_code
def yX8_takenIn : MethodName := ⟨RX8, "takenIn", "(I)I"⟩
abbrev cX8_taken : ByteArray := prog_10_method_63_code
def yX8_taken : MethodName := ⟨RX8, "taken", "(I)I"⟩
abbrev cX8_use : ByteArray := prog_10_method_64_code
def yX8_use : MethodName := ⟨RX8, "use", "(II)I"⟩
abbrev cX8_asWished : ByteArray := prog_10_method_65_code
def yX8_asWished : MethodName := ⟨RX8, "asWished", "()I"⟩
abbrev cX8_count : ByteArray := prog_10_method_66_code
def yX8_count : MethodName := ⟨RX8, "count", "(I)I"⟩
def RJ9 : String := "java/lang/Math"
def TJ9 : u_T := fun k => match k with
  | _ => ("", "", "", false)
def tyJ9 : Nat → FieldType := fun k => match k with
  | _ => .int
theorem nmJ9 : ∀ a, a < 0 → ∀ b, b < 0 → a ≠ b → (TJ9 a).2.1 ≠ (TJ9 b).2.1 := by decide +kernel
theorem tyJ9_ok : ∀ k, k < 0 → parseFieldDescriptor (TJ9 k).2.2.1 = some (tyJ9 k) := by decide +kernel
abbrev cJ9_max_7cf53 : ByteArray := prog_11_method_65_code
def yJ9_max_7cf53 : MethodName := ⟨RJ9, "max", "(II)I"⟩
abbrev cJ9_min_7cf53 : ByteArray := prog_11_method_69_code
def yJ9_min_7cf53 : MethodName := ⟨RJ9, "min", "(II)I"⟩
def RJ0 : String := "java/lang/String"
def TJ0 : u_T := fun k => match k with
  | _ => ("", "", "", false)
def tyJ0 : Nat → FieldType := fun k => match k with
  | _ => .int
theorem nmJ0 : ∀ a, a < 0 → ∀ b, b < 0 → a ≠ b → (TJ0 a).2.1 ≠ (TJ0 b).2.1 := by decide +kernel
theorem tyJ0_ok : ∀ k, k < 0 → parseFieldDescriptor (TJ0 k).2.2.1 = some (tyJ0 k) := by decide +kernel
abbrev cJ0_length_8abf5 : ByteArray := prog_12_method_54_code
def yJ0_length_8abf5 : MethodName := ⟨RJ0, "length", "()I"⟩
abbrev cJ0_charAt_5068e : ByteArray := prog_12_method_56_code
def yJ0_charAt_5068e : MethodName := ⟨RJ0, "charAt", "(I)C"⟩
abbrev cJ0_coder_7d493 : ByteArray := prog_12_method_152_code
def yJ0_coder_7d493 : MethodName := ⟨RJ0, "coder", "()B"⟩
abbrev cJ0_isLatin1_aae02 : ByteArray := prog_12_method_154_code
def yJ0_isLatin1_aae02 : MethodName := ⟨RJ0, "isLatin1", "()Z"⟩
abbrev cJ0_checkIndex_df160 : ByteArray := prog_12_method_155_code
def yJ0_checkIndex_df160 : MethodName := ⟨RJ0, "checkIndex", "(II)V"⟩
def RJ1 : String := "java/lang/StringLatin1"
def TJ1 : u_T := fun k => match k with
  | _ => ("", "", "", false)
def tyJ1 : Nat → FieldType := fun k => match k with
  | _ => .int
theorem nmJ1 : ∀ a, a < 0 → ∀ b, b < 0 → a ≠ b → (TJ1 a).2.1 ≠ (TJ1 b).2.1 := by decide +kernel
theorem tyJ1_ok : ∀ k, k < 0 → parseFieldDescriptor (TJ1 k).2.2.1 = some (tyJ1 k) := by decide +kernel
abbrev cJ1_charAt_3b067 : ByteArray := prog_13_method_2_code
def yJ1_charAt_3b067 : MethodName := ⟨RJ1, "charAt", "([BI)C"⟩
def RJ2 : String := "java/lang/StringUTF16"
def TJ2 : u_T := fun k => match k with
  | _ => ("", "", "", false)
def tyJ2 : Nat → FieldType := fun k => match k with
  | _ => .int
theorem nmJ2 : ∀ a, a < 0 → ∀ b, b < 0 → a ≠ b → (TJ2 a).2.1 ≠ (TJ2 b).2.1 := by decide +kernel
theorem tyJ2_ok : ∀ k, k < 0 → parseFieldDescriptor (TJ2 k).2.2.1 = some (tyJ2 k) := by decide +kernel
abbrev cJ2_getChar_3b067 : ByteArray := prog_14_method_5_code
def yJ2_getChar_3b067 : MethodName := ⟨RJ2, "getChar", "([BI)C"⟩
abbrev cJ2_length_9d52b : ByteArray := prog_14_method_6_code
def yJ2_length_9d52b : MethodName := ⟨RJ2, "length", "([B)I"⟩
abbrev cJ2_charAt_3b067 : ByteArray := prog_14_method_83_code
def yJ2_charAt_3b067 : MethodName := ⟨RJ2, "charAt", "([BI)C"⟩
abbrev cJ2_checkIndex_2214a : ByteArray := prog_14_method_91_code
def yJ2_checkIndex_2214a : MethodName := ⟨RJ2, "checkIndex", "(I[B)V"⟩
def RJ10 : String := "java/lang/System"
def TJ10 : u_T := fun k => match k with
  | _ => ("", "", "", false)
def tyJ10 : Nat → FieldType := fun k => match k with
  | _ => .int
theorem nmJ10 : ∀ a, a < 0 → ∀ b, b < 0 → a ≠ b → (TJ10 a).2.1 ≠ (TJ10 b).2.1 := by decide +kernel
theorem tyJ10_ok : ∀ k, k < 0 → parseFieldDescriptor (TJ10 k).2.2.1 = some (tyJ10 k) := by decide +kernel
def RJ3 : String := "jdk/internal/util/Preconditions"
def TJ3 : u_T := fun k => match k with
  | _ => ("", "", "", false)
def tyJ3 : Nat → FieldType := fun k => match k with
  | _ => .int
theorem nmJ3 : ∀ a, a < 0 → ∀ b, b < 0 → a ≠ b → (TJ3 a).2.1 ≠ (TJ3 b).2.1 := by decide +kernel
theorem tyJ3_ok : ∀ k, k < 0 → parseFieldDescriptor (TJ3 k).2.2.1 = some (tyJ3 k) := by decide +kernel
abbrev cJ3_checkIndex_8e157 : ByteArray := prog_16_method_11_code
def yJ3_checkIndex_8e157 : MethodName := ⟨RJ3, "checkIndex", "(IILjava/util/function/BiFunction;)I"⟩
def RL : String := "ThroatTracksLaw"
abbrev cL_law : ByteArray := code
def yL_law : MethodName := ⟨RL, "law", "([I)Z"⟩
abbrev vwCl : List vw_C := [(RX0, TX0, 3), (RX1, TX1, 3), (RX2, TX2, 4), (RX3, TX3, 5), (RX4, TX4, 8), (RX5, TX5, 2), (RX6, TX6, 8), (RX7, TX7, 8), (RX8, TX8, 15)]
