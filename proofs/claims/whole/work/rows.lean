section
-- ===== PART A: goes FIRST, ahead of the names: the tables' words, and 'selects' of the private methods out of them =====
/-- a private method of a class that the tables say can be made, by its rows of tables_1 -/
def lw_okq (q : MethodName × Nat) : Prop := (q.1.cls ≠ "java/lang/invoke/MethodHandle" ∧ q.1.cls ≠ "java/lang/invoke/VarHandle") ∧ Cond.instantiable q.1.cls q.2 ∈ tables_1 ∧ Cond.privateMethod q.1 ∈ tables_1 ∧ Cond.instanceMethod q.1 ∈ tables_1
theorem lw_p0 : lw_okq (⟨"StalkRoom", "keep", "(LStalkRoom$Caster;)I"⟩, 15) := ⟨⟨by decide +kernel, by decide +kernel⟩, List.mem_of_getElem? (i := 17) (by decide +kernel), List.mem_of_getElem? (i := 183) (by decide +kernel), List.mem_of_getElem? (i := 184) (by decide +kernel)⟩
theorem lw_p1 : lw_okq (⟨"StalkRoom", "casterAt", "(I)LStalkRoom$Caster;"⟩, 15) := ⟨⟨by decide +kernel, by decide +kernel⟩, List.mem_of_getElem? (i := 17) (by decide +kernel), List.mem_of_getElem? (i := 235) (by decide +kernel), List.mem_of_getElem? (i := 236) (by decide +kernel)⟩
theorem lw_p2 : lw_okq (⟨"StalkRoom$Stalks", "rest", "(I)I"⟩, 3) := ⟨⟨by decide +kernel, by decide +kernel⟩, List.mem_of_getElem? (i := 194) (by decide +kernel), List.mem_of_getElem? (i := 269) (by decide +kernel), List.mem_of_getElem? (i := 270) (by decide +kernel)⟩
theorem lw_p3 : lw_okq (⟨"StalkRoom", "found", "(I)I"⟩, 15) := ⟨⟨by decide +kernel, by decide +kernel⟩, List.mem_of_getElem? (i := 17) (by decide +kernel), List.mem_of_getElem? (i := 301) (by decide +kernel), List.mem_of_getElem? (i := 302) (by decide +kernel)⟩
theorem lw_p4 : lw_okq (⟨"StalkRoom$Stalks", "partHeaps", "(LStalkRoom$Odds;)V"⟩, 3) := ⟨⟨by decide +kernel, by decide +kernel⟩, List.mem_of_getElem? (i := 194) (by decide +kernel), List.mem_of_getElem? (i := 363) (by decide +kernel), List.mem_of_getElem? (i := 364) (by decide +kernel)⟩
theorem lw_p5 : lw_okq (⟨"StalkRoom$Stalks", "sharesOf", "([J)J"⟩, 3) := ⟨⟨by decide +kernel, by decide +kernel⟩, List.mem_of_getElem? (i := 194) (by decide +kernel), List.mem_of_getElem? (i := 367) (by decide +kernel), List.mem_of_getElem? (i := 368) (by decide +kernel)⟩
theorem lw_p6 : lw_okq (⟨"StalkRoom$Stalks", "partHeap", "(IJ[J)V"⟩, 3) := ⟨⟨by decide +kernel, by decide +kernel⟩, List.mem_of_getElem? (i := 194) (by decide +kernel), List.mem_of_getElem? (i := 372) (by decide +kernel), List.mem_of_getElem? (i := 373) (by decide +kernel)⟩
theorem lw_p7 : lw_okq (⟨"StalkRoom", "tellFraction", "(JJ)V"⟩, 15) := ⟨⟨by decide +kernel, by decide +kernel⟩, List.mem_of_getElem? (i := 17) (by decide +kernel), List.mem_of_getElem? (i := 383) (by decide +kernel), List.mem_of_getElem? (i := 384) (by decide +kernel)⟩
theorem lw_p8 : lw_okq (⟨"StalkRoom", "figureAt", "(I)LStalkRoom$Figure;"⟩, 15) := ⟨⟨by decide +kernel, by decide +kernel⟩, List.mem_of_getElem? (i := 17) (by decide +kernel), List.mem_of_getElem? (i := 425) (by decide +kernel), List.mem_of_getElem? (i := 426) (by decide +kernel)⟩
theorem lw_p9 : lw_okq (⟨"StalkRoom$WayFinder", "meetAll", "(II)V"⟩, 5) := ⟨⟨by decide +kernel, by decide +kernel⟩, List.mem_of_getElem? (i := 45) (by decide +kernel), List.mem_of_getElem? (i := 484) (by decide +kernel), List.mem_of_getElem? (i := 485) (by decide +kernel)⟩
theorem lw_p10 : lw_okq (⟨"StalkRoom", "rowAt", "(I)LStalkRoom$ByteRow;"⟩, 15) := ⟨⟨by decide +kernel, by decide +kernel⟩, List.mem_of_getElem? (i := 17) (by decide +kernel), List.mem_of_getElem? (i := 513) (by decide +kernel), List.mem_of_getElem? (i := 514) (by decide +kernel)⟩
theorem lw_p11 : lw_okq (⟨"StalkRoom$ByteRow", "isMisfit", "(II)Z"⟩, 2) := ⟨⟨by decide +kernel, by decide +kernel⟩, List.mem_of_getElem? (i := 104) (by decide +kernel), List.mem_of_getElem? (i := 556) (by decide +kernel), List.mem_of_getElem? (i := 557) (by decide +kernel)⟩
theorem lw_p12 : lw_okq (⟨"StalkRoom$ByteRow", "isMisfitPair", "(I)Z"⟩, 2) := ⟨⟨by decide +kernel, by decide +kernel⟩, List.mem_of_getElem? (i := 104) (by decide +kernel), List.mem_of_getElem? (i := 560) (by decide +kernel), List.mem_of_getElem? (i := 561) (by decide +kernel)⟩
theorem lw_p13 : lw_okq (⟨"StalkRoom$ByteRow", "isMendedBy", "(III)Z"⟩, 2) := ⟨⟨by decide +kernel, by decide +kernel⟩, List.mem_of_getElem? (i := 104) (by decide +kernel), List.mem_of_getElem? (i := 595) (by decide +kernel), List.mem_of_getElem? (i := 596) (by decide +kernel)⟩
theorem lw_p14 : lw_okq (⟨"StalkRoom$ByteRow", "changePlaces", "(II)V"⟩, 2) := ⟨⟨by decide +kernel, by decide +kernel⟩, List.mem_of_getElem? (i := 104) (by decide +kernel), List.mem_of_getElem? (i := 599) (by decide +kernel), List.mem_of_getElem? (i := 600) (by decide +kernel)⟩
theorem lw_p15 : lw_okq (⟨"StalkRoom", "weighedDiffer", "()I"⟩, 15) := ⟨⟨by decide +kernel, by decide +kernel⟩, List.mem_of_getElem? (i := 17) (by decide +kernel), List.mem_of_getElem? (i := 617) (by decide +kernel), List.mem_of_getElem? (i := 618) (by decide +kernel)⟩
def lw_privs_1 : List (MethodName × Nat) := [(⟨"StalkRoom", "keep", "(LStalkRoom$Caster;)I"⟩, 15), (⟨"StalkRoom", "casterAt", "(I)LStalkRoom$Caster;"⟩, 15), (⟨"StalkRoom$Stalks", "rest", "(I)I"⟩, 3), (⟨"StalkRoom", "found", "(I)I"⟩, 15), (⟨"StalkRoom$Stalks", "partHeaps", "(LStalkRoom$Odds;)V"⟩, 3), (⟨"StalkRoom$Stalks", "sharesOf", "([J)J"⟩, 3), (⟨"StalkRoom$Stalks", "partHeap", "(IJ[J)V"⟩, 3), (⟨"StalkRoom", "tellFraction", "(JJ)V"⟩, 15), (⟨"StalkRoom", "figureAt", "(I)LStalkRoom$Figure;"⟩, 15), (⟨"StalkRoom$WayFinder", "meetAll", "(II)V"⟩, 5), (⟨"StalkRoom", "rowAt", "(I)LStalkRoom$ByteRow;"⟩, 15), (⟨"StalkRoom$ByteRow", "isMisfit", "(II)Z"⟩, 2), (⟨"StalkRoom$ByteRow", "isMisfitPair", "(I)Z"⟩, 2), (⟨"StalkRoom$ByteRow", "isMendedBy", "(III)Z"⟩, 2), (⟨"StalkRoom$ByteRow", "changePlaces", "(II)V"⟩, 2), (⟨"StalkRoom", "weighedDiffer", "()I"⟩, 15)]
theorem lw_r1 : ∀ q ∈ lw_privs_1, lw_okq q := List.forall_mem_cons.mpr ⟨lw_p0, List.forall_mem_cons.mpr ⟨lw_p1, List.forall_mem_cons.mpr ⟨lw_p2, List.forall_mem_cons.mpr ⟨lw_p3, List.forall_mem_cons.mpr ⟨lw_p4, List.forall_mem_cons.mpr ⟨lw_p5, List.forall_mem_cons.mpr ⟨lw_p6, List.forall_mem_cons.mpr ⟨lw_p7, List.forall_mem_cons.mpr ⟨lw_p8, List.forall_mem_cons.mpr ⟨lw_p9, List.forall_mem_cons.mpr ⟨lw_p10, List.forall_mem_cons.mpr ⟨lw_p11, List.forall_mem_cons.mpr ⟨lw_p12, List.forall_mem_cons.mpr ⟨lw_p13, List.forall_mem_cons.mpr ⟨lw_p14, List.forall_mem_cons.mpr ⟨lw_p15, fun _ h => absurd h List.not_mem_nil⟩⟩⟩⟩⟩⟩⟩⟩⟩⟩⟩⟩⟩⟩⟩⟩
theorem lw_p16 : lw_okq (⟨"StalkRoom", "rowsThere", "()I"⟩, 15) := ⟨⟨by decide +kernel, by decide +kernel⟩, List.mem_of_getElem? (i := 17) (by decide +kernel), List.mem_of_getElem? (i := 660) (by decide +kernel), List.mem_of_getElem? (i := 661) (by decide +kernel)⟩
theorem lw_p17 : lw_okq (⟨"StalkRoom", "oldLinesOfAll", "()I"⟩, 15) := ⟨⟨by decide +kernel, by decide +kernel⟩, List.mem_of_getElem? (i := 17) (by decide +kernel), List.mem_of_getElem? (i := 664) (by decide +kernel), List.mem_of_getElem? (i := 665) (by decide +kernel)⟩
theorem lw_p18 : lw_okq (⟨"StalkRoomModel", "put", "(IIIZII)I"⟩, 33) := ⟨⟨by decide +kernel, by decide +kernel⟩, List.mem_of_getElem? (i := 682) (by decide +kernel), List.mem_of_getElem? (i := 793) (by decide +kernel), List.mem_of_getElem? (i := 794) (by decide +kernel)⟩
theorem lw_p19 : lw_okq (⟨"StalkRoomModel", "isCaster", "(I)Z"⟩, 33) := ⟨⟨by decide +kernel, by decide +kernel⟩, List.mem_of_getElem? (i := 682) (by decide +kernel), List.mem_of_getElem? (i := 815) (by decide +kernel), List.mem_of_getElem? (i := 816) (by decide +kernel)⟩
theorem lw_p20 : lw_okq (⟨"StalkRoomModel", "tells", "(II)I"⟩, 33) := ⟨⟨by decide +kernel, by decide +kernel⟩, List.mem_of_getElem? (i := 682) (by decide +kernel), List.mem_of_getElem? (i := 819) (by decide +kernel), List.mem_of_getElem? (i := 820) (by decide +kernel)⟩
theorem lw_p21 : lw_okq (⟨"StalkRoomModel", "parts", "(I)Z"⟩, 33) := ⟨⟨by decide +kernel, by decide +kernel⟩, List.mem_of_getElem? (i := 682) (by decide +kernel), List.mem_of_getElem? (i := 823) (by decide +kernel), List.mem_of_getElem? (i := 824) (by decide +kernel)⟩
theorem lw_p22 : lw_okq (⟨"StalkRoomModel", "meets", "(I)I"⟩, 33) := ⟨⟨by decide +kernel, by decide +kernel⟩, List.mem_of_getElem? (i := 682) (by decide +kernel), List.mem_of_getElem? (i := 831) (by decide +kernel), List.mem_of_getElem? (i := 832) (by decide +kernel)⟩
theorem lw_p23 : lw_okq (⟨"StalkRoomModel", "left", "(III)I"⟩, 33) := ⟨⟨by decide +kernel, by decide +kernel⟩, List.mem_of_getElem? (i := 682) (by decide +kernel), List.mem_of_getElem? (i := 835) (by decide +kernel), List.mem_of_getElem? (i := 836) (by decide +kernel)⟩
theorem lw_p24 : lw_okq (⟨"StalkRoomModel", "places", "(II)I"⟩, 33) := ⟨⟨by decide +kernel, by decide +kernel⟩, List.mem_of_getElem? (i := 682) (by decide +kernel), List.mem_of_getElem? (i := 842) (by decide +kernel), List.mem_of_getElem? (i := 843) (by decide +kernel)⟩
theorem lw_p25 : lw_okq (⟨"StalkRoomModel", "first", "(II)I"⟩, 33) := ⟨⟨by decide +kernel, by decide +kernel⟩, List.mem_of_getElem? (i := 682) (by decide +kernel), List.mem_of_getElem? (i := 846) (by decide +kernel), List.mem_of_getElem? (i := 847) (by decide +kernel)⟩
theorem lw_p26 : lw_okq (⟨"StalkRoomModel", "setOdds", "(I)V"⟩, 33) := ⟨⟨by decide +kernel, by decide +kernel⟩, List.mem_of_getElem? (i := 682) (by decide +kernel), List.mem_of_getElem? (i := 862) (by decide +kernel), List.mem_of_getElem? (i := 863) (by decide +kernel)⟩
theorem lw_p27 : lw_okq (⟨"StalkRoomModel", "clearOdds", "()V"⟩, 33) := ⟨⟨by decide +kernel, by decide +kernel⟩, List.mem_of_getElem? (i := 682) (by decide +kernel), List.mem_of_getElem? (i := 866) (by decide +kernel), List.mem_of_getElem? (i := 867) (by decide +kernel)⟩
theorem lw_p28 : lw_okq (⟨"StalkRoomModel", "partAll", "(I)V"⟩, 33) := ⟨⟨by decide +kernel, by decide +kernel⟩, List.mem_of_getElem? (i := 682) (by decide +kernel), List.mem_of_getElem? (i := 872) (by decide +kernel), List.mem_of_getElem? (i := 873) (by decide +kernel)⟩
theorem lw_p29 : lw_okq (⟨"StalkRoomModel", "add", "(JJJJ)V"⟩, 33) := ⟨⟨by decide +kernel, by decide +kernel⟩, List.mem_of_getElem? (i := 682) (by decide +kernel), List.mem_of_getElem? (i := 879) (by decide +kernel), List.mem_of_getElem? (i := 880) (by decide +kernel)⟩
theorem lw_p30 : lw_okq (⟨"StalkRoomModel", "tell", "(JJ)I"⟩, 33) := ⟨⟨by decide +kernel, by decide +kernel⟩, List.mem_of_getElem? (i := 682) (by decide +kernel), List.mem_of_getElem? (i := 883) (by decide +kernel), List.mem_of_getElem? (i := 884) (by decide +kernel)⟩
theorem lw_p31 : lw_okq (⟨"StalkRoomModel", "draws", "(I)I"⟩, 33) := ⟨⟨by decide +kernel, by decide +kernel⟩, List.mem_of_getElem? (i := 682) (by decide +kernel), List.mem_of_getElem? (i := 895) (by decide +kernel), List.mem_of_getElem? (i := 896) (by decide +kernel)⟩
def lw_privs_2 : List (MethodName × Nat) := [(⟨"StalkRoom", "rowsThere", "()I"⟩, 15), (⟨"StalkRoom", "oldLinesOfAll", "()I"⟩, 15), (⟨"StalkRoomModel", "put", "(IIIZII)I"⟩, 33), (⟨"StalkRoomModel", "isCaster", "(I)Z"⟩, 33), (⟨"StalkRoomModel", "tells", "(II)I"⟩, 33), (⟨"StalkRoomModel", "parts", "(I)Z"⟩, 33), (⟨"StalkRoomModel", "meets", "(I)I"⟩, 33), (⟨"StalkRoomModel", "left", "(III)I"⟩, 33), (⟨"StalkRoomModel", "places", "(II)I"⟩, 33), (⟨"StalkRoomModel", "first", "(II)I"⟩, 33), (⟨"StalkRoomModel", "setOdds", "(I)V"⟩, 33), (⟨"StalkRoomModel", "clearOdds", "()V"⟩, 33), (⟨"StalkRoomModel", "partAll", "(I)V"⟩, 33), (⟨"StalkRoomModel", "add", "(JJJJ)V"⟩, 33), (⟨"StalkRoomModel", "tell", "(JJ)I"⟩, 33), (⟨"StalkRoomModel", "draws", "(I)I"⟩, 33)]
theorem lw_r2 : ∀ q ∈ lw_privs_2, lw_okq q := List.forall_mem_cons.mpr ⟨lw_p16, List.forall_mem_cons.mpr ⟨lw_p17, List.forall_mem_cons.mpr ⟨lw_p18, List.forall_mem_cons.mpr ⟨lw_p19, List.forall_mem_cons.mpr ⟨lw_p20, List.forall_mem_cons.mpr ⟨lw_p21, List.forall_mem_cons.mpr ⟨lw_p22, List.forall_mem_cons.mpr ⟨lw_p23, List.forall_mem_cons.mpr ⟨lw_p24, List.forall_mem_cons.mpr ⟨lw_p25, List.forall_mem_cons.mpr ⟨lw_p26, List.forall_mem_cons.mpr ⟨lw_p27, List.forall_mem_cons.mpr ⟨lw_p28, List.forall_mem_cons.mpr ⟨lw_p29, List.forall_mem_cons.mpr ⟨lw_p30, List.forall_mem_cons.mpr ⟨lw_p31, fun _ h => absurd h List.not_mem_nil⟩⟩⟩⟩⟩⟩⟩⟩⟩⟩⟩⟩⟩⟩⟩⟩
theorem lw_p32 : lw_okq (⟨"StalkRoomModel", "under", "(I)I"⟩, 33) := ⟨⟨by decide +kernel, by decide +kernel⟩, List.mem_of_getElem? (i := 682) (by decide +kernel), List.mem_of_getElem? (i := 899) (by decide +kernel), List.mem_of_getElem? (i := 900) (by decide +kernel)⟩
theorem lw_p33 : lw_okq (⟨"StalkRoomModel", "numberOf", "(I)I"⟩, 33) := ⟨⟨by decide +kernel, by decide +kernel⟩, List.mem_of_getElem? (i := 682) (by decide +kernel), List.mem_of_getElem? (i := 924) (by decide +kernel), List.mem_of_getElem? (i := 925) (by decide +kernel)⟩
theorem lw_p34 : lw_okq (⟨"StalkRoomModel", "looked", "(I)I"⟩, 33) := ⟨⟨by decide +kernel, by decide +kernel⟩, List.mem_of_getElem? (i := 682) (by decide +kernel), List.mem_of_getElem? (i := 960) (by decide +kernel), List.mem_of_getElem? (i := 961) (by decide +kernel)⟩
theorem lw_p35 : lw_okq (⟨"StalkRoomModel", "misfitsOf", "(II)I"⟩, 33) := ⟨⟨by decide +kernel, by decide +kernel⟩, List.mem_of_getElem? (i := 682) (by decide +kernel), List.mem_of_getElem? (i := 976) (by decide +kernel), List.mem_of_getElem? (i := 977) (by decide +kernel)⟩
theorem lw_p36 : lw_okq (⟨"StalkRoomModel", "leaf", "(II)I"⟩, 33) := ⟨⟨by decide +kernel, by decide +kernel⟩, List.mem_of_getElem? (i := 682) (by decide +kernel), List.mem_of_getElem? (i := 980) (by decide +kernel), List.mem_of_getElem? (i := 981) (by decide +kernel)⟩
theorem lw_p37 : lw_okq (⟨"StalkRoomModel", "swap", "(III)V"⟩, 33) := ⟨⟨by decide +kernel, by decide +kernel⟩, List.mem_of_getElem? (i := 682) (by decide +kernel), List.mem_of_getElem? (i := 997) (by decide +kernel), List.mem_of_getElem? (i := 998) (by decide +kernel)⟩
theorem lw_p38 : lw_okq (⟨"StalkRoomModel", "counts", "(I)Z"⟩, 33) := ⟨⟨by decide +kernel, by decide +kernel⟩, List.mem_of_getElem? (i := 682) (by decide +kernel), List.mem_of_getElem? (i := 1009) (by decide +kernel), List.mem_of_getElem? (i := 1010) (by decide +kernel)⟩
theorem lw_p39 : lw_okq (⟨"StalkRoomModel", "offOf", "(I)I"⟩, 33) := ⟨⟨by decide +kernel, by decide +kernel⟩, List.mem_of_getElem? (i := 682) (by decide +kernel), List.mem_of_getElem? (i := 1013) (by decide +kernel), List.mem_of_getElem? (i := 1014) (by decide +kernel)⟩
theorem lw_p40 : lw_okq (⟨"StalkRoomModel", "setShares", "(I)V"⟩, 33) := ⟨⟨by decide +kernel, by decide +kernel⟩, List.mem_of_getElem? (i := 682) (by decide +kernel), List.mem_of_getElem? (i := 1017) (by decide +kernel), List.mem_of_getElem? (i := 1018) (by decide +kernel)⟩
def lw_privs_3 : List (MethodName × Nat) := [(⟨"StalkRoomModel", "under", "(I)I"⟩, 33), (⟨"StalkRoomModel", "numberOf", "(I)I"⟩, 33), (⟨"StalkRoomModel", "looked", "(I)I"⟩, 33), (⟨"StalkRoomModel", "misfitsOf", "(II)I"⟩, 33), (⟨"StalkRoomModel", "leaf", "(II)I"⟩, 33), (⟨"StalkRoomModel", "swap", "(III)V"⟩, 33), (⟨"StalkRoomModel", "counts", "(I)Z"⟩, 33), (⟨"StalkRoomModel", "offOf", "(I)I"⟩, 33), (⟨"StalkRoomModel", "setShares", "(I)V"⟩, 33)]
theorem lw_r3 : ∀ q ∈ lw_privs_3, lw_okq q := List.forall_mem_cons.mpr ⟨lw_p32, List.forall_mem_cons.mpr ⟨lw_p33, List.forall_mem_cons.mpr ⟨lw_p34, List.forall_mem_cons.mpr ⟨lw_p35, List.forall_mem_cons.mpr ⟨lw_p36, List.forall_mem_cons.mpr ⟨lw_p37, List.forall_mem_cons.mpr ⟨lw_p38, List.forall_mem_cons.mpr ⟨lw_p39, List.forall_mem_cons.mpr ⟨lw_p40, fun _ h => absurd h List.not_mem_nil⟩⟩⟩⟩⟩⟩⟩⟩⟩
def lw_privs : List (MethodName × Nat) := lw_privs_1 ++ (lw_privs_2 ++ (lw_privs_3))
def lw_tbl : List Cond := k2_sels lw_privs ++ tables_1
theorem lw_privs_ok : ∀ q ∈ lw_privs, lw_okq q := by
  show ∀ q ∈ lw_privs_1 ++ (lw_privs_2 ++ (lw_privs_3)), lw_okq q
  exact List.forall_mem_append.mpr ⟨lw_r1, List.forall_mem_append.mpr ⟨lw_r2, lw_r3⟩⟩
end
section
def RX0 : String := "StalkRoom$ByteRow"
def TX0 : u_T := fun k => match k with
  | 0 => ("StalkRoom$ByteRow", "bytes", "[B", true)
  | _ => ("StalkRoom$ByteRow", "size", "I", false)
def tyX0 : Nat → FieldType := fun k => match k with
  | 0 => .array .byte
  | _ => .int
theorem nmX0 : ∀ a, a < 2 → ∀ b, b < 2 → a ≠ b → (TX0 a).2.1 ≠ (TX0 b).2.1 := by decide +kernel
theorem tyX0_ok : ∀ k, k < 2 → parseFieldDescriptor (TX0 k).2.2.1 = some (tyX0 k) := by decide +kernel
abbrev cX0_init : ByteArray := prog_2_method_1_code
def yX0_init : MethodName := ⟨RX0, "<init>", "()V"⟩
abbrev cX0_isThere : ByteArray := prog_2_method_2_code
def yX0_isThere : MethodName := ⟨RX0, "isThere", "()Z"⟩
abbrev cX0_begin : ByteArray := prog_2_method_3_code
def yX0_begin : MethodName := ⟨RX0, "begin", "(I)V"⟩
abbrev cX0_hasBytes : ByteArray := prog_2_method_4_code
def yX0_hasBytes : MethodName := ⟨RX0, "hasBytes", "(II)Z"⟩
abbrev cX0_misfitsIn : ByteArray := prog_2_method_5_code
def yX0_misfitsIn : MethodName := ⟨RX0, "misfitsIn", "(I)I"⟩
abbrev cX0_numbersThere : ByteArray := prog_2_method_6_code
def yX0_numbersThere : MethodName := ⟨RX0, "numbersThere", "()J"⟩
abbrev cX0_mendingSwap : ByteArray := prog_2_method_7_code
def yX0_mendingSwap : MethodName := ⟨RX0, "mendingSwap", "(I)I"⟩
abbrev cX0_partsInto : ByteArray := prog_2_method_8_code
def yX0_partsInto : MethodName := ⟨RX0, "partsInto", "([I)Z"⟩
abbrev cX0_isMendedBy : ByteArray := prog_2_method_9_code
def yX0_isMendedBy : MethodName := ⟨RX0, "isMendedBy", "(III)Z"⟩
abbrev cX0_changePlaces : ByteArray := prog_2_method_10_code
def yX0_changePlaces : MethodName := ⟨RX0, "changePlaces", "(II)V"⟩
abbrev cX0_isMisfit : ByteArray := prog_2_method_11_code
def yX0_isMisfit : MethodName := ⟨RX0, "isMisfit", "(II)Z"⟩
abbrev cX0_isMisfitPair : ByteArray := prog_2_method_12_code
def yX0_isMisfitPair : MethodName := ⟨RX0, "isMisfitPair", "(I)Z"⟩
def RX1 : String := "StalkRoom$Caster"
def TX1 : u_T := fun k => match k with
  | _ => ("", "", "", false)
def tyX1 : Nat → FieldType := fun k => match k with
  | _ => .int
theorem nmX1 : ∀ a, a < 0 → ∀ b, b < 0 → a ≠ b → (TX1 a).2.1 ≠ (TX1 b).2.1 := by decide +kernel
theorem tyX1_ok : ∀ k, k < 0 → parseFieldDescriptor (TX1 k).2.2.1 = some (tyX1 k) := by decide +kernel
abbrev cX1_init : ByteArray := prog_3_method_1_code
def yX1_init : MethodName := ⟨RX1, "<init>", "()V"⟩
abbrev cX1_tell : ByteArray := prog_3_method_2_code
def yX1_tell : MethodName := ⟨RX1, "tell", "(I)I"⟩
abbrev cX1_castLine : ByteArray := prog_3_method_3_code
def yX1_castLine : MethodName := ⟨RX1, "castLine", "(LStalkRoom$Seed;)I"⟩
abbrev cX1_weigh : ByteArray := prog_3_method_4_code
def yX1_weigh : MethodName := ⟨RX1, "weigh", "(LStalkRoom$Odds;)V"⟩
def RX2 : String := "StalkRoom$Coins"
def TX2 : u_T := fun k => match k with
  | _ => ("", "", "", false)
def tyX2 : Nat → FieldType := fun k => match k with
  | _ => .int
theorem nmX2 : ∀ a, a < 0 → ∀ b, b < 0 → a ≠ b → (TX2 a).2.1 ≠ (TX2 b).2.1 := by decide +kernel
theorem tyX2_ok : ∀ k, k < 0 → parseFieldDescriptor (TX2 k).2.2.1 = some (tyX2 k) := by decide +kernel
abbrev cX2_init : ByteArray := prog_4_method_1_code
def yX2_init : MethodName := ⟨RX2, "<init>", "()V"⟩
abbrev cX2_tell : ByteArray := prog_4_method_2_code
def yX2_tell : MethodName := ⟨RX2, "tell", "(I)I"⟩
abbrev cX2_castLine : ByteArray := prog_4_method_3_code
def yX2_castLine : MethodName := ⟨RX2, "castLine", "(LStalkRoom$Seed;)I"⟩
abbrev cX2_weigh : ByteArray := prog_4_method_4_code
def yX2_weigh : MethodName := ⟨RX2, "weigh", "(LStalkRoom$Odds;)V"⟩
def RX3 : String := "StalkRoom$Figure"
def TX3 : u_T := fun k => match k with
  | _ => ("StalkRoom$Figure", "lines", "[I", true)
def tyX3 : Nat → FieldType := fun k => match k with
  | _ => .array .int
theorem nmX3 : ∀ a, a < 1 → ∀ b, b < 1 → a ≠ b → (TX3 a).2.1 ≠ (TX3 b).2.1 := by decide +kernel
theorem tyX3_ok : ∀ k, k < 1 → parseFieldDescriptor (TX3 k).2.2.1 = some (tyX3 k) := by decide +kernel
abbrev cX3_init : ByteArray := prog_5_method_1_code
def yX3_init : MethodName := ⟨RX3, "<init>", "()V"⟩
abbrev cX3_bits : ByteArray := prog_5_method_2_code
def yX3_bits : MethodName := ⟨RX3, "bits", "()I"⟩
abbrev cX3_oldLines : ByteArray := prog_5_method_3_code
def yX3_oldLines : MethodName := ⟨RX3, "oldLines", "()I"⟩
abbrev cX3_become : ByteArray := prog_5_method_4_code
def yX3_become : MethodName := ⟨RX3, "become", "(LStalkRoom$Figure;)V"⟩
abbrev cX3_castBy : ByteArray := prog_5_method_5_code
def yX3_castBy : MethodName := ⟨RX3, "castBy", "(LStalkRoom$Caster;LStalkRoom$Seed;)Z"⟩
abbrev cX3_becomeAfter : ByteArray := prog_5_method_6_code
def yX3_becomeAfter : MethodName := ⟨RX3, "becomeAfter", "(ILStalkRoom$Figure;)V"⟩
abbrev cX3_changed : ByteArray := prog_5_method_7_code
def yX3_changed : MethodName := ⟨RX3, "changed", "(I)I"⟩
def RX4 : String := "StalkRoom$Odds"
def TX4 : u_T := fun k => match k with
  | 0 => ("StalkRoom$Odds", "weights", "[J", true)
  | 1 => ("StalkRoom$Odds", "heaps", "[J", true)
  | 2 => ("StalkRoom$Odds", "nextHeaps", "[J", true)
  | _ => ("StalkRoom$Odds", "all", "J", false)
def tyX4 : Nat → FieldType := fun k => match k with
  | 0 => .array .long
  | 1 => .array .long
  | 2 => .array .long
  | _ => .long
theorem nmX4 : ∀ a, a < 4 → ∀ b, b < 4 → a ≠ b → (TX4 a).2.1 ≠ (TX4 b).2.1 := by decide +kernel
theorem tyX4_ok : ∀ k, k < 4 → parseFieldDescriptor (TX4 k).2.2.1 = some (tyX4 k) := by decide +kernel
abbrev cX4_init : ByteArray := prog_6_method_1_code
def yX4_init : MethodName := ⟨RX4, "<init>", "()V"⟩
abbrev cX4_begin : ByteArray := prog_6_method_2_code
def yX4_begin : MethodName := ⟨RX4, "begin", "(J)V"⟩
abbrev cX4_beginBundle : ByteArray := prog_6_method_3_code
def yX4_beginBundle : MethodName := ⟨RX4, "beginBundle", "(I)V"⟩
abbrev cX4_partsInto : ByteArray := prog_6_method_4_code
def yX4_partsInto : MethodName := ⟨RX4, "partsInto", "([I)V"⟩
def RX5 : String := "StalkRoom$Seed"
def TX5 : u_T := fun k => match k with
  | _ => ("StalkRoom$Seed", "s", "J", false)
def tyX5 : Nat → FieldType := fun k => match k with
  | _ => .long
theorem nmX5 : ∀ a, a < 1 → ∀ b, b < 1 → a ≠ b → (TX5 a).2.1 ≠ (TX5 b).2.1 := by decide +kernel
theorem tyX5_ok : ∀ k, k < 1 → parseFieldDescriptor (TX5 k).2.2.1 = some (tyX5 k) := by decide +kernel
abbrev cX5_init : ByteArray := prog_7_method_1_code
def yX5_init : MethodName := ⟨RX5, "<init>", "()V"⟩
abbrev cX5_begin : ByteArray := prog_7_method_2_code
def yX5_begin : MethodName := ⟨RX5, "begin", "(J)V"⟩
abbrev cX5_nextBelow : ByteArray := prog_7_method_3_code
def yX5_nextBelow : MethodName := ⟨RX5, "nextBelow", "(I)I"⟩
def RX6 : String := "StalkRoom$Stalks"
def TX6 : u_T := fun k => match k with
  | 0 => ("StalkRoom$Stalks", "bundle", "I", true)
  | 1 => ("StalkRoom$Stalks", "by", "I", true)
  | _ => ("StalkRoom$Stalks", "fingers", "I", true)
def tyX6 : Nat → FieldType := fun k => match k with
  | 0 => .int
  | 1 => .int
  | _ => .int
theorem nmX6 : ∀ a, a < 3 → ∀ b, b < 3 → a ≠ b → (TX6 a).2.1 ≠ (TX6 b).2.1 := by decide +kernel
theorem tyX6_ok : ∀ k, k < 3 → parseFieldDescriptor (TX6 k).2.2.1 = some (tyX6 k) := by decide +kernel
abbrev cX6_init : ByteArray := prog_8_method_1_code
def yX6_init : MethodName := ⟨RX6, "<init>", "(IIZ)V"⟩
abbrev cX6_tell : ByteArray := prog_8_method_2_code
def yX6_tell : MethodName := ⟨RX6, "tell", "(I)I"⟩
abbrev cX6_kind : ByteArray := prog_8_method_3_code
def yX6_kind : MethodName := ⟨RX6, "kind", "()I"⟩
abbrev cX6_firstPlace : ByteArray := prog_8_method_4_code
def yX6_firstPlace : MethodName := ⟨RX6, "firstPlace", "(I)I"⟩
abbrev cX6_lastPlace : ByteArray := prog_8_method_5_code
def yX6_lastPlace : MethodName := ⟨RX6, "lastPlace", "(I)I"⟩
abbrev cX6_placesOf : ByteArray := prog_8_method_6_code
def yX6_placesOf : MethodName := ⟨RX6, "placesOf", "(I)I"⟩
abbrev cX6_placesAtFirst : ByteArray := prog_8_method_7_code
def yX6_placesAtFirst : MethodName := ⟨RX6, "placesAtFirst", "()I"⟩
abbrev cX6_lineOf : ByteArray := prog_8_method_8_code
def yX6_lineOf : MethodName := ⟨RX6, "lineOf", "(I)I"⟩
abbrev cX6_leftOf : ByteArray := prog_8_method_9_code
def yX6_leftOf : MethodName := ⟨RX6, "leftOf", "(II)I"⟩
abbrev cX6_partedAt : ByteArray := prog_8_method_10_code
def yX6_partedAt : MethodName := ⟨RX6, "partedAt", "(II)I"⟩
abbrev cX6_castLine : ByteArray := prog_8_method_11_code
def yX6_castLine : MethodName := ⟨RX6, "castLine", "(LStalkRoom$Seed;)I"⟩
abbrev cX6_weigh : ByteArray := prog_8_method_12_code
def yX6_weigh : MethodName := ⟨RX6, "weigh", "(LStalkRoom$Odds;)V"⟩
abbrev cX6_weighBundle : ByteArray := prog_8_method_13_code
def yX6_weighBundle : MethodName := ⟨RX6, "weighBundle", "(ILStalkRoom$Odds;)V"⟩
abbrev cX6_partHeaps : ByteArray := prog_8_method_14_code
def yX6_partHeaps : MethodName := ⟨RX6, "partHeaps", "(LStalkRoom$Odds;)V"⟩
abbrev cX6_sharesOf : ByteArray := prog_8_method_15_code
def yX6_sharesOf : MethodName := ⟨RX6, "sharesOf", "([J)J"⟩
abbrev cX6_partHeap : ByteArray := prog_8_method_16_code
def yX6_partHeap : MethodName := ⟨RX6, "partHeap", "(IJ[J)V"⟩
abbrev cX6_rest : ByteArray := prog_8_method_17_code
def yX6_rest : MethodName := ⟨RX6, "rest", "(I)I"⟩
def RX7 : String := "StalkRoom$Thumb"
def TX7 : u_T := fun k => match k with
  | 0 => ("StalkRoom$Stalks", "bundle", "I", true)
  | 1 => ("StalkRoom$Stalks", "by", "I", true)
  | 2 => ("StalkRoom$Stalks", "fingers", "I", true)
  | 3 => ("StalkRoom$Thumb", "lo", "I", true)
  | _ => ("StalkRoom$Thumb", "hi", "I", true)
def tyX7 : Nat → FieldType := fun k => match k with
  | 0 => .int
  | 1 => .int
  | 2 => .int
  | 3 => .int
  | _ => .int
theorem nmX7 : ∀ a, a < 5 → ∀ b, b < 5 → a ≠ b → (TX7 a).2.1 ≠ (TX7 b).2.1 := by decide +kernel
theorem tyX7_ok : ∀ k, k < 5 → parseFieldDescriptor (TX7 k).2.2.1 = some (tyX7 k) := by decide +kernel
abbrev cX7_init : ByteArray := prog_9_method_1_code
def yX7_init : MethodName := ⟨RX7, "<init>", "(IIZII)V"⟩
abbrev cX7_kind : ByteArray := prog_9_method_2_code
def yX7_kind : MethodName := ⟨RX7, "kind", "()I"⟩
abbrev cX7_firstPlace : ByteArray := prog_9_method_3_code
def yX7_firstPlace : MethodName := ⟨RX7, "firstPlace", "(I)I"⟩
abbrev cX7_lastPlace : ByteArray := prog_9_method_4_code
def yX7_lastPlace : MethodName := ⟨RX7, "lastPlace", "(I)I"⟩
def RX8 : String := "StalkRoom$WayFinder"
def TX8 : u_T := fun k => match k with
  | 0 => ("StalkRoom$WayFinder", "waiting", "[I", true)
  | 1 => ("StalkRoom$WayFinder", "before", "[I", true)
  | 2 => ("StalkRoom$WayFinder", "metBy", "[I", true)
  | 3 => ("StalkRoom$WayFinder", "acts", "[I", true)
  | _ => ("StalkRoom$WayFinder", "actCount", "I", false)
def tyX8 : Nat → FieldType := fun k => match k with
  | 0 => .array .int
  | 1 => .array .int
  | 2 => .array .int
  | 3 => .array .int
  | _ => .int
theorem nmX8 : ∀ a, a < 5 → ∀ b, b < 5 → a ≠ b → (TX8 a).2.1 ≠ (TX8 b).2.1 := by decide +kernel
theorem tyX8_ok : ∀ k, k < 5 → parseFieldDescriptor (TX8 k).2.2.1 = some (tyX8 k) := by decide +kernel
abbrev cX8_init : ByteArray := prog_10_method_1_code
def yX8_init : MethodName := ⟨RX8, "<init>", "()V"⟩
abbrev cX8_find : ByteArray := prog_10_method_2_code
def yX8_find : MethodName := ⟨RX8, "find", "(III)I"⟩
abbrev cX8_actAt : ByteArray := prog_10_method_3_code
def yX8_actAt : MethodName := ⟨RX8, "actAt", "(I)I"⟩
abbrev cX8_meetAll : ByteArray := prog_10_method_4_code
def yX8_meetAll : MethodName := ⟨RX8, "meetAll", "(II)V"⟩
abbrev cX8_after : ByteArray := prog_10_method_5_code
def yX8_after : MethodName := ⟨RX8, "after", "(II)I"⟩
def RX9 : String := "StalkRoom"
def TX9 : u_T := fun k => match k with
  | 0 => ("StalkRoom", "casters", "[LStalkRoom$Caster;", true)
  | 1 => ("StalkRoom", "casterCount", "I", false)
  | 2 => ("StalkRoom", "figures", "[LStalkRoom$Figure;", true)
  | 3 => ("StalkRoom", "spare", "LStalkRoom$Figure;", true)
  | 4 => ("StalkRoom", "rows", "[LStalkRoom$ByteRow;", true)
  | 5 => ("StalkRoom", "finder", "LStalkRoom$WayFinder;", true)
  | 6 => ("StalkRoom", "seed", "LStalkRoom$Seed;", true)
  | 7 => ("StalkRoom", "odds", "LStalkRoom$Odds;", true)
  | 8 => ("StalkRoom", "parts", "[I", true)
  | 9 => ("StalkRoom", "otherParts", "[I", true)
  | 10 => ("StalkRoom", "findingTimes", "[I", true)
  | 11 => ("StalkRoom", "latestFinding", "I", false)
  | 12 => ("StalkRoom", "lastAsked", "J", false)
  | 13 => ("StalkRoom", "fractionUpper", "J", false)
  | _ => ("StalkRoom", "fractionLower", "J", false)
def tyX9 : Nat → FieldType := fun k => match k with
  | 0 => .array (.object "StalkRoom$Caster")
  | 1 => .int
  | 2 => .array (.object "StalkRoom$Figure")
  | 3 => .object "StalkRoom$Figure"
  | 4 => .array (.object "StalkRoom$ByteRow")
  | 5 => .object "StalkRoom$WayFinder"
  | 6 => .object "StalkRoom$Seed"
  | 7 => .object "StalkRoom$Odds"
  | 8 => .array .int
  | 9 => .array .int
  | 10 => .array .int
  | 11 => .int
  | 12 => .long
  | 13 => .long
  | _ => .long
theorem nmX9 : ∀ a, a < 15 → ∀ b, b < 15 → a ≠ b → (TX9 a).2.1 ≠ (TX9 b).2.1 := by decide +kernel
theorem tyX9_ok : ∀ k, k < 15 → parseFieldDescriptor (TX9 k).2.2.1 = some (tyX9 k) := by decide +kernel
abbrev cX9_init : ByteArray := prog_1_method_1_code
def yX9_init : MethodName := ⟨RX9, "<init>", "()V"⟩
abbrev cX9_caster : ByteArray := prog_1_method_2_code
def yX9_caster : MethodName := ⟨RX9, "caster", "(Z)I"⟩
abbrev cX9_stalks : ByteArray := prog_1_method_3_code
def yX9_stalks : MethodName := ⟨RX9, "stalks", "(IIZ)I"⟩
abbrev cX9_thumb : ByteArray := prog_1_method_4_code
def yX9_thumb : MethodName := ⟨RX9, "thumb", "(IIZII)I"⟩
abbrev cX9_told : ByteArray := prog_1_method_5_code
def yX9_told : MethodName := ⟨RX9, "told", "(II)I"⟩
abbrev cX9_mark : ByteArray := prog_1_method_6_code
def yX9_mark : MethodName := ⟨RX9, "mark", "(II)I"⟩
abbrev cX9_part : ByteArray := prog_1_method_7_code
def yX9_part : MethodName := ⟨RX9, "part", "(III)I"⟩
abbrev cX9_line : ByteArray := prog_1_method_8_code
def yX9_line : MethodName := ⟨RX9, "line", "(IIII)I"⟩
abbrev cX9_odds : ByteArray := prog_1_method_9_code
def yX9_odds : MethodName := ⟨RX9, "odds", "(II)I"⟩
abbrev cX9_mean : ByteArray := prog_1_method_10_code
def yX9_mean : MethodName := ⟨RX9, "mean", "(I)I"⟩
abbrev cX9_drawn : ByteArray := prog_1_method_11_code
def yX9_drawn : MethodName := ⟨RX9, "drawn", "(IJ)I"⟩
abbrev cX9_set : ByteArray := prog_1_method_12_code
def yX9_set : MethodName := ⟨RX9, "set", "(III)I"⟩
abbrev cX9_get : ByteArray := prog_1_method_13_code
def yX9_get : MethodName := ⟨RX9, "get", "(II)I"⟩
abbrev cX9_draw : ByteArray := prog_1_method_14_code
def yX9_draw : MethodName := ⟨RX9, "draw", "(IIJ)I"⟩
abbrev cX9_number : ByteArray := prog_1_method_15_code
def yX9_number : MethodName := ⟨RX9, "number", "(I)I"⟩
abbrev cX9_act : ByteArray := prog_1_method_16_code
def yX9_act : MethodName := ⟨RX9, "act", "(III)I"⟩
abbrev cX9_way : ByteArray := prog_1_method_17_code
def yX9_way : MethodName := ⟨RX9, "way", "(III)I"⟩
abbrev cX9_step : ByteArray := prog_1_method_18_code
def yX9_step : MethodName := ⟨RX9, "step", "(I)I"⟩
abbrev cX9_row : ByteArray := prog_1_method_19_code
def yX9_row : MethodName := ⟨RX9, "row", "(II)I"⟩
abbrev cX9_lay : ByteArray := prog_1_method_20_code
def yX9_lay : MethodName := ⟨RX9, "lay", "(III)I"⟩
abbrev cX9_tear : ByteArray := prog_1_method_21_code
def yX9_tear : MethodName := ⟨RX9, "tear", "(I)I"⟩
abbrev cX9_copy : ByteArray := prog_1_method_22_code
def yX9_copy : MethodName := ⟨RX9, "copy", "(IIIII)I"⟩
abbrev cX9_misfits : ByteArray := prog_1_method_23_code
def yX9_misfits : MethodName := ⟨RX9, "misfits", "(II)I"⟩
abbrev cX9_follows : ByteArray := prog_1_method_24_code
def yX9_follows : MethodName := ⟨RX9, "follows", "(I)I"⟩
abbrev cX9_lacks : ByteArray := prog_1_method_25_code
def yX9_lacks : MethodName := ⟨RX9, "lacks", "(I)I"⟩
abbrev cX9_swapped : ByteArray := prog_1_method_26_code
def yX9_swapped : MethodName := ⟨RX9, "swapped", "(II)I"⟩
abbrev cX9_record : ByteArray := prog_1_method_27_code
def yX9_record : MethodName := ⟨RX9, "record", "(IIJI)I"⟩
abbrev cX9_off : ByteArray := prog_1_method_28_code
def yX9_off : MethodName := ⟨RX9, "off", "(II)I"⟩
abbrev cX9_nearest : ByteArray := prog_1_method_29_code
def yX9_nearest : MethodName := ⟨RX9, "nearest", "(I)I"⟩
abbrev cX9_lost : ByteArray := prog_1_method_30_code
def yX9_lost : MethodName := ⟨RX9, "lost", "(II)I"⟩
abbrev cX9_need : ByteArray := prog_1_method_31_code
def yX9_need : MethodName := ⟨RX9, "need", "(II)I"⟩
abbrev cX9_asked : ByteArray := prog_1_method_32_code
def yX9_asked : MethodName := ⟨RX9, "asked", "()J"⟩
abbrev cX9_upper : ByteArray := prog_1_method_33_code
def yX9_upper : MethodName := ⟨RX9, "upper", "()J"⟩
abbrev cX9_lower : ByteArray := prog_1_method_34_code
def yX9_lower : MethodName := ⟨RX9, "lower", "()J"⟩
abbrev cX9_count : ByteArray := prog_1_method_35_code
def yX9_count : MethodName := ⟨RX9, "count", "(I)I"⟩
abbrev cX9_finding : ByteArray := prog_1_method_36_code
def yX9_finding : MethodName := ⟨RX9, "finding", "()I"⟩
abbrev cX9_findings : ByteArray := prog_1_method_37_code
def yX9_findings : MethodName := ⟨RX9, "findings", "(I)I"⟩
abbrev cX9_digest : ByteArray := prog_1_method_38_code
def yX9_digest : MethodName := ⟨RX9, "digest", "()J"⟩
abbrev cX9_found : ByteArray := prog_1_method_39_code
def yX9_found : MethodName := ⟨RX9, "found", "(I)I"⟩
abbrev cX9_keep : ByteArray := prog_1_method_40_code
def yX9_keep : MethodName := ⟨RX9, "keep", "(LStalkRoom$Caster;)I"⟩
abbrev cX9_casterAt : ByteArray := prog_1_method_41_code
def yX9_casterAt : MethodName := ⟨RX9, "casterAt", "(I)LStalkRoom$Caster;"⟩
abbrev cX9_figureAt : ByteArray := prog_1_method_42_code
def yX9_figureAt : MethodName := ⟨RX9, "figureAt", "(I)LStalkRoom$Figure;"⟩
abbrev cX9_rowAt : ByteArray := prog_1_method_43_code
def yX9_rowAt : MethodName := ⟨RX9, "rowAt", "(I)LStalkRoom$ByteRow;"⟩
abbrev cX9_rowsThere : ByteArray := prog_1_method_44_code
def yX9_rowsThere : MethodName := ⟨RX9, "rowsThere", "()I"⟩
abbrev cX9_oldLinesOfAll : ByteArray := prog_1_method_45_code
def yX9_oldLinesOfAll : MethodName := ⟨RX9, "oldLinesOfAll", "()I"⟩
abbrev cX9_tellFraction : ByteArray := prog_1_method_46_code
def yX9_tellFraction : MethodName := ⟨RX9, "tellFraction", "(JJ)V"⟩
abbrev cX9_weighedDiffer : ByteArray := prog_1_method_47_code
def yX9_weighedDiffer : MethodName := ⟨RX9, "weighedDiffer", "()I"⟩
abbrev cX9_commonDivisor : ByteArray := prog_1_method_48_code
def yX9_commonDivisor : MethodName := ⟨RX9, "commonDivisor", "(JJ)J"⟩
abbrev cX9_asStalks : ByteArray := prog_1_method_49_code
def yX9_asStalks : MethodName := ⟨RX9, "asStalks", "(LStalkRoom$Caster;)LStalkRoom$Stalks;"⟩
abbrev cX9_isBundle : ByteArray := prog_1_method_50_code
def yX9_isBundle : MethodName := ⟨RX9, "isBundle", "(II)Z"⟩
abbrev cX9_isNumber : ByteArray := prog_1_method_51_code
def yX9_isNumber : MethodName := ⟨RX9, "isNumber", "(I)Z"⟩
abbrev cX9_isOrder : ByteArray := prog_1_method_52_code
def yX9_isOrder : MethodName := ⟨RX9, "isOrder", "(I)Z"⟩
abbrev cX9_isOld : ByteArray := prog_1_method_53_code
def yX9_isOld : MethodName := ⟨RX9, "isOld", "(I)Z"⟩
abbrev cX9_turnedBits : ByteArray := prog_1_method_54_code
def yX9_turnedBits : MethodName := ⟨RX9, "turnedBits", "(I)I"⟩
abbrev cX9_oppositeBits : ByteArray := prog_1_method_55_code
def yX9_oppositeBits : MethodName := ⟨RX9, "oppositeBits", "(I)I"⟩
abbrev cX9_nestedBits : ByteArray := prog_1_method_56_code
def yX9_nestedBits : MethodName := ⟨RX9, "nestedBits", "(I)I"⟩
def RX10 : String := "StalkRoomModel"
def TX10 : u_T := fun k => match k with
  | 0 => ("StalkRoomModel", "finding", "I", false)
  | 1 => ("StalkRoomModel", "findings", "[I", true)
  | 2 => ("StalkRoomModel", "asked", "J", false)
  | 3 => ("StalkRoomModel", "upper", "J", false)
  | 4 => ("StalkRoomModel", "lower", "J", false)
  | 5 => ("StalkRoomModel", "casters", "I", false)
  | 6 => ("StalkRoomModel", "kinds", "[I", true)
  | 7 => ("StalkRoomModel", "sticks", "[I", true)
  | 8 => ("StalkRoomModel", "counts", "[I", true)
  | 9 => ("StalkRoomModel", "hasFinger", "[Z", true)
  | 10 => ("StalkRoomModel", "lows", "[I", true)
  | 11 => ("StalkRoomModel", "highs", "[I", true)
  | 12 => ("StalkRoomModel", "ups", "[J", true)
  | 13 => ("StalkRoomModel", "lowers", "[J", true)
  | 14 => ("StalkRoomModel", "nextUps", "[J", true)
  | 15 => ("StalkRoomModel", "nextLowers", "[J", true)
  | 16 => ("StalkRoomModel", "oddsUp", "[J", true)
  | 17 => ("StalkRoomModel", "oddsLow", "[J", true)
  | 18 => ("StalkRoomModel", "sumUp", "J", false)
  | 19 => ("StalkRoomModel", "sumLow", "J", false)
  | 20 => ("StalkRoomModel", "seed", "J", false)
  | 21 => ("StalkRoomModel", "figures", "[I", true)
  | 22 => ("StalkRoomModel", "six", "[I", true)
  | 23 => ("StalkRoomModel", "far", "[I", true)
  | 24 => ("StalkRoomModel", "steps", "I", false)
  | 25 => ("StalkRoomModel", "stepRow", "[I", true)
  | 26 => ("StalkRoomModel", "sizes", "[I", true)
  | 27 => ("StalkRoomModel", "rows", "[I", true)
  | 28 => ("StalkRoomModel", "moving", "[I", true)
  | 29 => ("StalkRoomModel", "times", "[I", true)
  | 30 => ("StalkRoomModel", "counted", "I", false)
  | 31 => ("StalkRoomModel", "shares", "[I", true)
  | _ => ("StalkRoomModel", "held", "[I", true)
def tyX10 : Nat → FieldType := fun k => match k with
  | 0 => .int
  | 1 => .array .int
  | 2 => .long
  | 3 => .long
  | 4 => .long
  | 5 => .int
  | 6 => .array .int
  | 7 => .array .int
  | 8 => .array .int
  | 9 => .array .boolean
  | 10 => .array .int
  | 11 => .array .int
  | 12 => .array .long
  | 13 => .array .long
  | 14 => .array .long
  | 15 => .array .long
  | 16 => .array .long
  | 17 => .array .long
  | 18 => .long
  | 19 => .long
  | 20 => .long
  | 21 => .array .int
  | 22 => .array .int
  | 23 => .array .int
  | 24 => .int
  | 25 => .array .int
  | 26 => .array .int
  | 27 => .array .int
  | 28 => .array .int
  | 29 => .array .int
  | 30 => .int
  | 31 => .array .int
  | _ => .array .int
theorem nmX10 : ∀ a, a < 33 → ∀ b, b < 33 → a ≠ b → (TX10 a).2.1 ≠ (TX10 b).2.1 := by decide +kernel
theorem tyX10_ok : ∀ k, k < 33 → parseFieldDescriptor (TX10 k).2.2.1 = some (tyX10 k) := by decide +kernel
abbrev cX10_init : ByteArray := prog_12_method_1_code
def yX10_init : MethodName := ⟨RX10, "<init>", "()V"⟩
abbrev cX10_in : ByteArray := prog_12_method_3_code
def yX10_in : MethodName := ⟨RX10, "in", "(III)Z"⟩
abbrev cX10_meets : ByteArray := prog_12_method_4_code
def yX10_meets : MethodName := ⟨RX10, "meets", "(I)I"⟩
abbrev cX10_divisor : ByteArray := prog_12_method_5_code
def yX10_divisor : MethodName := ⟨RX10, "divisor", "(JJ)J"⟩
abbrev cX10_tell : ByteArray := prog_12_method_6_code
def yX10_tell : MethodName := ⟨RX10, "tell", "(JJ)I"⟩
abbrev cX10_put : ByteArray := prog_12_method_7_code
def yX10_put : MethodName := ⟨RX10, "put", "(IIIZII)I"⟩
abbrev cX10_caster : ByteArray := prog_12_method_8_code
def yX10_caster : MethodName := ⟨RX10, "caster", "(Z)I"⟩
abbrev cX10_areStalks : ByteArray := prog_12_method_9_code
def yX10_areStalks : MethodName := ⟨RX10, "areStalks", "(II)Z"⟩
abbrev cX10_stalks : ByteArray := prog_12_method_10_code
def yX10_stalks : MethodName := ⟨RX10, "stalks", "(IIZ)I"⟩
abbrev cX10_thumb : ByteArray := prog_12_method_11_code
def yX10_thumb : MethodName := ⟨RX10, "thumb", "(IIZII)I"⟩
abbrev cX10_isCaster : ByteArray := prog_12_method_12_code
def yX10_isCaster : MethodName := ⟨RX10, "isCaster", "(I)Z"⟩
abbrev cX10_parts : ByteArray := prog_12_method_13_code
def yX10_parts : MethodName := ⟨RX10, "parts", "(I)Z"⟩
abbrev cX10_tells : ByteArray := prog_12_method_14_code
def yX10_tells : MethodName := ⟨RX10, "tells", "(II)I"⟩
abbrev cX10_told : ByteArray := prog_12_method_15_code
def yX10_told : MethodName := ⟨RX10, "told", "(II)I"⟩
abbrev cX10_rest : ByteArray := prog_12_method_16_code
def yX10_rest : MethodName := ⟨RX10, "rest", "(II)I"⟩
abbrev cX10_left : ByteArray := prog_12_method_17_code
def yX10_left : MethodName := ⟨RX10, "left", "(III)I"⟩
abbrev cX10_first : ByteArray := prog_12_method_18_code
def yX10_first : MethodName := ⟨RX10, "first", "(II)I"⟩
abbrev cX10_places : ByteArray := prog_12_method_19_code
def yX10_places : MethodName := ⟨RX10, "places", "(II)I"⟩
abbrev cX10_mark : ByteArray := prog_12_method_20_code
def yX10_mark : MethodName := ⟨RX10, "mark", "(II)I"⟩
abbrev cX10_part : ByteArray := prog_12_method_21_code
def yX10_part : MethodName := ⟨RX10, "part", "(III)I"⟩
abbrev cX10_line : ByteArray := prog_12_method_22_code
def yX10_line : MethodName := ⟨RX10, "line", "(IIII)I"⟩
abbrev cX10_add : ByteArray := prog_12_method_23_code
def yX10_add : MethodName := ⟨RX10, "add", "(JJJJ)V"⟩
abbrev cX10_clearOdds : ByteArray := prog_12_method_24_code
def yX10_clearOdds : MethodName := ⟨RX10, "clearOdds", "()V"⟩
abbrev cX10_setOdds : ByteArray := prog_12_method_25_code
def yX10_setOdds : MethodName := ⟨RX10, "setOdds", "(I)V"⟩
abbrev cX10_partAll : ByteArray := prog_12_method_26_code
def yX10_partAll : MethodName := ⟨RX10, "partAll", "(I)V"⟩
abbrev cX10_odds : ByteArray := prog_12_method_27_code
def yX10_odds : MethodName := ⟨RX10, "odds", "(II)I"⟩
abbrev cX10_mean : ByteArray := prog_12_method_28_code
def yX10_mean : MethodName := ⟨RX10, "mean", "(I)I"⟩
abbrev cX10_under : ByteArray := prog_12_method_29_code
def yX10_under : MethodName := ⟨RX10, "under", "(I)I"⟩
abbrev cX10_draws : ByteArray := prog_12_method_30_code
def yX10_draws : MethodName := ⟨RX10, "draws", "(I)I"⟩
abbrev cX10_drawn : ByteArray := prog_12_method_31_code
def yX10_drawn : MethodName := ⟨RX10, "drawn", "(IJ)I"⟩
abbrev cX10_isFigure : ByteArray := prog_12_method_32_code
def yX10_isFigure : MethodName := ⟨RX10, "isFigure", "(I)Z"⟩
abbrev cX10_set : ByteArray := prog_12_method_33_code
def yX10_set : MethodName := ⟨RX10, "set", "(III)I"⟩
abbrev cX10_get : ByteArray := prog_12_method_34_code
def yX10_get : MethodName := ⟨RX10, "get", "(II)I"⟩
abbrev cX10_draw : ByteArray := prog_12_method_35_code
def yX10_draw : MethodName := ⟨RX10, "draw", "(IIJ)I"⟩
abbrev cX10_numberOf : ByteArray := prog_12_method_36_code
def yX10_numberOf : MethodName := ⟨RX10, "numberOf", "(I)I"⟩
abbrev cX10_number : ByteArray := prog_12_method_37_code
def yX10_number : MethodName := ⟨RX10, "number", "(I)I"⟩
abbrev cX10_nestedAt : ByteArray := prog_12_method_38_code
def yX10_nestedAt : MethodName := ⟨RX10, "nestedAt", "(I)I"⟩
abbrev cX10_act : ByteArray := prog_12_method_39_code
def yX10_act : MethodName := ⟨RX10, "act", "(III)I"⟩
abbrev cX10_turned : ByteArray := prog_12_method_40_code
def yX10_turned : MethodName := ⟨RX10, "turned", "(I)I"⟩
abbrev cX10_after : ByteArray := prog_12_method_41_code
def yX10_after : MethodName := ⟨RX10, "after", "(II)I"⟩
abbrev cX10_way : ByteArray := prog_12_method_42_code
def yX10_way : MethodName := ⟨RX10, "way", "(III)I"⟩
abbrev cX10_step : ByteArray := prog_12_method_43_code
def yX10_step : MethodName := ⟨RX10, "step", "(I)I"⟩
abbrev cX10_isRow : ByteArray := prog_12_method_44_code
def yX10_isRow : MethodName := ⟨RX10, "isRow", "(I)Z"⟩
abbrev cX10_looked : ByteArray := prog_12_method_45_code
def yX10_looked : MethodName := ⟨RX10, "looked", "(I)I"⟩
abbrev cX10_row : ByteArray := prog_12_method_46_code
def yX10_row : MethodName := ⟨RX10, "row", "(II)I"⟩
abbrev cX10_lay : ByteArray := prog_12_method_47_code
def yX10_lay : MethodName := ⟨RX10, "lay", "(III)I"⟩
abbrev cX10_tear : ByteArray := prog_12_method_48_code
def yX10_tear : MethodName := ⟨RX10, "tear", "(I)I"⟩
abbrev cX10_copy : ByteArray := prog_12_method_49_code
def yX10_copy : MethodName := ⟨RX10, "copy", "(IIIII)I"⟩
abbrev cX10_leaf : ByteArray := prog_12_method_50_code
def yX10_leaf : MethodName := ⟨RX10, "leaf", "(II)I"⟩
abbrev cX10_misfitsOf : ByteArray := prog_12_method_51_code
def yX10_misfitsOf : MethodName := ⟨RX10, "misfitsOf", "(II)I"⟩
abbrev cX10_misfits : ByteArray := prog_12_method_52_code
def yX10_misfits : MethodName := ⟨RX10, "misfits", "(II)I"⟩
abbrev cX10_follows : ByteArray := prog_12_method_53_code
def yX10_follows : MethodName := ⟨RX10, "follows", "(I)I"⟩
abbrev cX10_lacks : ByteArray := prog_12_method_54_code
def yX10_lacks : MethodName := ⟨RX10, "lacks", "(I)I"⟩
abbrev cX10_swap : ByteArray := prog_12_method_55_code
def yX10_swap : MethodName := ⟨RX10, "swap", "(III)V"⟩
abbrev cX10_swapped : ByteArray := prog_12_method_56_code
def yX10_swapped : MethodName := ⟨RX10, "swapped", "(II)I"⟩
abbrev cX10_record : ByteArray := prog_12_method_57_code
def yX10_record : MethodName := ⟨RX10, "record", "(IIJI)I"⟩
abbrev cX10_counts : ByteArray := prog_12_method_58_code
def yX10_counts : MethodName := ⟨RX10, "counts", "(I)Z"⟩
abbrev cX10_setShares : ByteArray := prog_12_method_59_code
def yX10_setShares : MethodName := ⟨RX10, "setShares", "(I)V"⟩
abbrev cX10_offOf : ByteArray := prog_12_method_60_code
def yX10_offOf : MethodName := ⟨RX10, "offOf", "(I)I"⟩
abbrev cX10_off : ByteArray := prog_12_method_61_code
def yX10_off : MethodName := ⟨RX10, "off", "(II)I"⟩
abbrev cX10_nearest : ByteArray := prog_12_method_62_code
def yX10_nearest : MethodName := ⟨RX10, "nearest", "(I)I"⟩
abbrev cX10_lost : ByteArray := prog_12_method_63_code
def yX10_lost : MethodName := ⟨RX10, "lost", "(II)I"⟩
abbrev cX10_need : ByteArray := prog_12_method_64_code
def yX10_need : MethodName := ⟨RX10, "need", "(II)I"⟩
abbrev cX10_asked : ByteArray := prog_12_method_65_code
def yX10_asked : MethodName := ⟨RX10, "asked", "()J"⟩
abbrev cX10_upper : ByteArray := prog_12_method_66_code
def yX10_upper : MethodName := ⟨RX10, "upper", "()J"⟩
abbrev cX10_lower : ByteArray := prog_12_method_67_code
def yX10_lower : MethodName := ⟨RX10, "lower", "()J"⟩
abbrev cX10_count : ByteArray := prog_12_method_68_code
def yX10_count : MethodName := ⟨RX10, "count", "(I)I"⟩
abbrev cX10_finding : ByteArray := prog_12_method_69_code
def yX10_finding : MethodName := ⟨RX10, "finding", "()I"⟩
abbrev cX10_findings : ByteArray := prog_12_method_70_code
def yX10_findings : MethodName := ⟨RX10, "findings", "(I)I"⟩
abbrev cX10_digest : ByteArray := prog_12_method_71_code
def yX10_digest : MethodName := ⟨RX10, "digest", "()J"⟩
def RJ13 : String := "java/lang/Long"
abbrev cJ13_bitCount_95d88 : ByteArray := prog_13_method_50_code
def yJ13_bitCount_95d88 : MethodName := ⟨RJ13, "bitCount", "(J)I"⟩
def RJ9 : String := "java/lang/Math"
abbrev cJ9_abs_0f7a4 : ByteArray := prog_14_method_59_code
def yJ9_abs_0f7a4 : MethodName := ⟨RJ9, "abs", "(I)I"⟩
def RJ10 : String := "java/lang/System"
def RJ7 : String := "java/util/Arrays"
abbrev cJ7_fill_d0a16 : ByteArray := prog_16_method_101_code
def yJ7_fill_d0a16 : MethodName := ⟨RJ7, "fill", "([JJ)V"⟩
abbrev cJ7_fill_53178 : ByteArray := prog_16_method_103_code
def yJ7_fill_53178 : MethodName := ⟨RJ7, "fill", "([II)V"⟩
abbrev cJ7_fill_031fb : ByteArray := prog_16_method_109_code
def yJ7_fill_031fb : MethodName := ⟨RJ7, "fill", "([BB)V"⟩
def RL : String := "StalkRoomLaw"
abbrev cL_law : ByteArray := code
def yL_law : MethodName := ⟨RL, "law", "([I)Z"⟩
abbrev vwCl : List vw_C := [(RX0, TX0, 2), (RX1, TX1, 0), (RX2, TX2, 0), (RX3, TX3, 1), (RX4, TX4, 4), (RX5, TX5, 1), (RX6, TX6, 3), (RX7, TX7, 5), (RX8, TX8, 5), (RX9, TX9, 15), (RX10, TX10, 33)]
end
section
/-! THE PURE MACHINE. Addresses: 0 is the script, k + 1 the cell that came k-th since the law began. A cell: an array (its type, length, contents) or an object (its class's number in vwCl, its fields). -/
abbrev pm_C : Type := (FieldType × vp_A) ⊕ (Nat × List Value)
abbrev pm_H : Type := Nat × (Nat → Option pm_C)
abbrev pm_G : Type := va_G × (FieldType → ClassId) × Cell × Nat × Nat
abbrev pm_E : Type := MethodName × ByteArray × Nat × Option FieldType × Room
abbrev pm_cc (E : pm_E) : ByteArray := E.2.1
abbrev pm_nL (E : pm_E) : Nat := E.2.2.1
abbrev pm_rt (E : pm_E) : Option FieldType := E.2.2.2.1
abbrev pm_rm (E : pm_E) : Room := E.2.2.2.2
def pm_ro (G : pm_G) (a : Nat) : Nat := match a with
  | 0 => G.2.2.2.1
  | k + 1 => G.2.2.2.2 + k
def pm_rv (G : pm_G) (v : Value) : Value := match v with
  | .ref a => .ref (pm_ro G a)
  | .int x => .int x
  | .long x => .long x
  | .float x => .float x
  | .double x => .double x
  | .null => .null
  | .retAddr x => .retAddr x
def pm_ra (G : pm_G) (x : vp_A) : vp_A := match x with
  | (n, .inr (.inr (.inr (.inr f)))) => (n, .inr (.inr (.inr (.inr (fun j => (f j).map (pm_ro G))))))
  | (n, .inl f) => (n, .inl f)
  | (n, .inr (.inl f)) => (n, .inr (.inl f))
  | (n, .inr (.inr (.inl f))) => (n, .inr (.inr (.inl f)))
  | (n, .inr (.inr (.inr (.inl f)))) => (n, .inr (.inr (.inr (.inl f))))
theorem pm_rv_cat (G : pm_G) (v : Value) : (pm_rv G v).category = v.category := by cases v <;> rfl
theorem pm_rv_cats (G : pm_G) (st : List Value) : ((st.map (pm_rv G)).map fun v => v.category).sum = (st.map fun v => v.category).sum := by
  induction st with
  | nil => rfl
  | cons v t ih => simp only [List.map_cons, List.sum_cons, pm_rv_cat, ih]
theorem pm_rv_rf (G : pm_G) (o : Option Nat) : pm_rv G (va_rf o) = va_rf (o.map (pm_ro G)) := by cases o <;> rfl
def pm_at (G : pm_G) (a : Nat) (c : pm_C) (H : Heap) : Prop := match c with
  | .inl x => (x.1 = .array .int ∧ a = 0 ∧ H[pm_ro G a]? = some G.2.2.1 ∧ G.2.2.1.vm ≠ .unknown ∧ ∃ f : Nat → Int32, x.2.2 = .inl f ∧ G.2.2.1.slots.size = x.2.1 ∧ ∀ j, j < x.2.1 → G.2.2.1.slots[j]? = some (.int (f j))) ∨ (0 < a ∧ H[pm_ro G a]? = some (vp_cell (G.2.1 x.1) (pm_ra G x.2)) ∧ x.1 ≠ .array .int)
  | .inr o => 0 < a ∧ va_at G.1 vwCl (pm_ro G a, .inr (o.1, o.2.map (pm_rv G))) H
def pm_R (G : pm_G) (h : pm_H) (H : Heap) : Prop := G.2.2.2.1 < G.2.2.2.2 ∧ 0 < h.1 ∧ H.size = pm_ro G h.1 ∧ ∀ a c, h.2 a = some c → pm_at G a c H
def pm_up (h : pm_H) (a : Nat) (c : pm_C) : pm_H := (h.1, fun q => if q = a then some c else h.2 q)
def pm_nw (h : pm_H) (c : pm_C) : pm_H := (h.1 + 1, fun q => if q = h.1 then some c else h.2 q)
theorem pm_same {h : pm_H} {a : Nat} {c : pm_C} : (pm_up h a c).2 a = some c := by simp [pm_up]
theorem pm_ne {h : pm_H} {a q : Nat} {c : pm_C} {x : Option pm_C} (n : q ≠ a) (e : h.2 q = x) : (pm_up h a c).2 q = x := by simp [pm_up, n, e]
theorem pm_up_up {h : pm_H} {a : Nat} {c d : pm_C} : pm_up (pm_up h a c) a d = pm_up h a d := by
  simp only [pm_up, Prod.mk.injEq, true_and]
  funext q
  by_cases e : q = a <;> simp [e]
theorem pm_up_self {h : pm_H} {a : Nat} {c : pm_C} (e : h.2 a = some c) : pm_up h a c = h := by
  refine Prod.ext rfl ?_
  funext q
  show (if q = a then some c else h.2 q) = h.2 q
  by_cases g : q = a
  · rw [if_pos g, g, e]
  · rw [if_neg g]
theorem pm_up_comm {h : pm_H} {a b : Nat} {c d : pm_C} (n : a ≠ b) : pm_up (pm_up h a c) b d = pm_up (pm_up h b d) a c := by
  simp only [pm_up, Prod.mk.injEq, true_and]
  funext q
  by_cases e : q = b
  · by_cases e2 : q = a
    · exact absurd (e2.symm.trans e) n
    · simp [e, Ne.symm n]
  · simp [e]
theorem pm_ro_inj {G : pm_G} (hb : G.2.2.2.1 < G.2.2.2.2) {a c : Nat} (h : pm_ro G a = pm_ro G c) : a = c := by
  cases a <;> cases c <;> simp only [pm_ro] at h <;> omega
theorem pm_ro_pos {G : pm_G} {a : Nat} (h : 0 < a) : G.2.2.2.2 ≤ pm_ro G a := by
  cases a with
  | zero => omega
  | succ k => simp [pm_ro]
theorem pm_at.kept {G : pm_G} {a : Nat} {c : pm_C} {H H' : Heap} (h : pm_at G a c H) (e : H'[pm_ro G a]? = H[pm_ro G a]?) : pm_at G a c H' := by
  cases c with
  | inl x =>
    rcases h with ⟨h1, h2, h3, h4⟩ | ⟨h1, h2, h3⟩
    · exact Or.inl ⟨h1, h2, by rw [e]; exact h3, h4⟩
    · exact Or.inr ⟨h1, by rw [e]; exact h2, h3⟩
  | inr o =>
    obtain ⟨h1, r, h2, h3⟩ := h
    exact ⟨h1, r, h2, h3.kept e⟩
theorem pm_at.lt {G : pm_G} {a : Nat} {c : pm_C} {H : Heap} (h : pm_at G a c H) : pm_ro G a < H.size := by
  cases c with
  | inl x =>
    rcases h with ⟨h1, h2, h3, h4⟩ | ⟨h1, h2, h3⟩
    · exact (Array.getElem?_eq_some_iff.mp h3).1
    · exact (Array.getElem?_eq_some_iff.mp h2).1
  | inr o =>
    obtain ⟨h1, r, h2, cell, h3, -⟩ := h
    exact (Array.getElem?_eq_some_iff.mp h3).1
theorem pm_R.up {G : pm_G} {h : pm_H} {H H' : Heap} {a : Nat} {c : pm_C} (hR : pm_R G h H) (ha : pm_at G a c H') (hz : H'.size = H.size) (ho : ∀ q, q ≠ pm_ro G a → H'[q]? = H[q]?) : pm_R G (pm_up h a c) H' := by
  obtain ⟨h1, h2, h3, h4⟩ := hR
  refine ⟨h1, h2, by rw [hz]; exact h3, fun q d hq => ?_⟩
  by_cases e : q = a
  · subst e
    rw [pm_same] at hq
    cases hq
    exact ha
  · have hq' : h.2 q = some d := by simpa [pm_up, e] using hq
    exact (h4 q d hq').kept (ho _ (fun e2 => e (pm_ro_inj h1 e2)))
theorem pm_R.nw {G : pm_G} {h : pm_H} {H H' : Heap} {c : pm_C} (hR : pm_R G h H) (ha : pm_at G h.1 c H') (hz : H'.size = H.size + 1) (ho : ∀ q, q < H.size → H'[q]? = H[q]?) : pm_R G (pm_nw h c) H' := by
  obtain ⟨h1, h2, h3, h4⟩ := hR
  refine ⟨h1, Nat.succ_pos _, ?_, fun q d hq => ?_⟩
  · rw [hz, h3]
    show pm_ro G h.1 + 1 = pm_ro G (h.1 + 1)
    cases e : h.1 with
    | zero => omega
    | succ k => simp only [pm_ro]; omega
  · by_cases e : q = h.1
    · subst e
      have : (pm_nw h c).2 h.1 = some c := by simp [pm_nw]
      rw [this] at hq
      cases hq
      exact ha
    · have hq' : h.2 q = some d := by simpa [pm_nw, e] using hq
      have := h4 q d hq'
      exact this.kept (ho _ this.lt)
def pm_tl : List FieldType := [.int, .long, .byte, .boolean, .object RX1, .object RX3, .object RX0]
def pm_tys (G : pm_G) : List (ClassId × FieldType) := pm_tl.map (fun t => (G.2.1 t, t))
def pm_no : List (String × String) := [(RX1, RX6), (RX2, RX6), (RX1, RX2), (RX6, RX2), (RX7, RX2), (RX1, RX7), (RX2, RX7), (RX6, RX7)]
def pm_kind (w : Cond) : Bool := match w with
  | .fieldLinkNest _ _ _ _ _ _ => true
  | .methodLinkNest _ _ _ _ => true
  | .declares _ => true
  | .castable _ _ => true
  | .arrayOver (.object _) => true
  | w => goodWord w
/-- private methods of Stalks on an object of Thumb: what is selected is the method itself -/
def pm_ex : List Cond := [.selects RX7 yX6_rest yX6_rest, .selects RX7 yX6_partHeaps yX6_partHeaps, .selects RX7 yX6_sharesOf yX6_sharesOf, .selects RX7 yX6_partHeap yX6_partHeap]
def pm_tbl : List Cond := (lw_tbl ++ pm_ex).filter pm_kind
theorem pm_m {w : Cond} (h : w ∈ lw_tbl) (hk : pm_kind w = true) : w ∈ pm_tbl := List.mem_filter.mpr ⟨List.mem_append_left _ h, hk⟩
theorem pm_mx {w : Cond} (h : w ∈ pm_ex) (hk : pm_kind w = true) : w ∈ pm_tbl := List.mem_filter.mpr ⟨List.mem_append_right _ h, hk⟩
theorem pm_selC {C : String} {y : MethodName} {s : State} {args : Array Value} {n : Nat} (hy : y.cls ≠ "java/lang/invoke/MethodHandle" ∧ y.cls ≠ "java/lang/invoke/VarHandle")
    (hins : (Cond.instantiable C n).before args s = true) (hins2 : ∃ n2, (Cond.instantiable y.cls n2).before args s = true) (hpriv : (Cond.privateMethod y).before args s = true) (hinst : (Cond.instanceMethod y).before args s = true) :
    (Cond.selects C y y).before args s = true := by
  obtain ⟨n2, hins2⟩ := hins2
  obtain ⟨c0, k0, hc0, hk0, -, hniab0, -, -⟩ := Cond.instantiable_spec hins
  obtain ⟨c, k, hc, hk, -, hniab, -, -⟩ := Cond.instantiable_spec hins2
  have hni : k.isInterface = false := (Bool.or_eq_false_iff.mp hniab).1
  obtain ⟨mk, methM, hnamed, hmethM, -, -⟩ := Cond.instanceMethod_spec hinst
  have hfound : s.methodFound? y.cls y.name y.desc = some mk := State.methodFound?_of_named hnamed hy
  have hcls : mk.cls = c := Option.some.inj ((findClass_of_methodNamed hnamed).symm.trans hc)
  have hsel : selectMethod {} s.vm c0 mk = .method mk := selectMethod_private hmethM (Cond.privateMethod_at hpriv mk methM hnamed hmethM)
  simp only [Cond.before, Cond.holds, Cond.value, hc0, hfound, hnamed, hsel, hcls, hk]
  simp; exact hni
def pm_K (G : pm_G) (U : State) : Prop := va_K G.1 vwCl (pm_tys G) U ∧ (∀ w ∈ pm_tbl, ∀ a : Array Value, w.before a U = true) ∧ (∀ q ∈ pm_no, va_Nc q.1 q.2 U) ∧ U.isArrayOf G.2.2.1 .int
theorem pm_word {w : Cond} (hk : pm_kind w = true) {s U : State} (hW : s.WarmedH U.vm) (h : ∀ a : Array Value, w.before a s = true) : ∀ a : Array Value, w.before a U = true := by
  intro a
  unfold pm_kind at hk
  split at hk
  · exact va_Nw.use rfl (va_Nw.warmF hW (h #[]))
  · exact va_Nw.use rfl (va_Nw.warmM hW (h #[]))
  · exact va_Nw.use rfl (va_Nw.warmD hW (h #[]))
  · exact va_Nw.use rfl (va_Nw.warmC hW (h #[]))
  · exact va_AO.use (va_AO.moved hW.alike (h #[]))
  · exact word_at hW (good_of_word hk) (h #[])
theorem pm_K.warm {G : pm_G} {s U : State} (h : pm_K G s) (hW : s.WarmedH U.vm) : pm_K G U :=
  ⟨h.1.moved hW.alike, fun w hw => pm_word (List.mem_filter.mp hw).2 hW (h.2.1 w hw), fun q hq => (h.2.2.1 q hq).moved hW.alike, State.isArrayOf_alike hW.alike h.2.2.2⟩
def pm_al (L : List (Option Value)) : List (Nat × Value) := (List.range L.length).filterMap (fun i => (L[i]?.join).map (fun v => (i, v)))
theorem pm_al_mem {L : List (Option Value)} {q : Nat × Value} : q ∈ pm_al L ↔ L[q.1]? = some (some q.2) := by
  unfold pm_al
  rw [List.mem_filterMap]
  constructor
  · rintro ⟨i, hi, h⟩
    cases e : L[i]? with
    | none => simp [e] at h
    | some x =>
      cases x with
      | none => simp [e] at h
      | some v =>
        simp [e] at h
        rw [← h]
        exact e
  · intro h
    refine ⟨q.1, List.mem_range.mpr (List.getElem?_eq_some_iff.mp h).1, ?_⟩
    simp [h]
def pm_L (G : pm_G) (L : List (Option Value)) (ls : Array Slot) (n : Nat) : Prop := lv_has ls n ((pm_al L).map (fun q => (q.1, pm_rv G q.2)))
theorem pm_L.at {G : pm_G} {L : List (Option Value)} {ls : Array Slot} {n : Nat} (h : pm_L G L ls n) {i : Nat} {v : Value} (e : L[i]? = some (some v)) : ls[i]? = some (.val (pm_rv G v)) :=
  h.2.2 (i, pm_rv G v) (List.mem_map.mpr ⟨(i, v), pm_al_mem.mpr e, rfl⟩)
theorem pm_L.sub {G : pm_G} {L L' : List (Option Value)} {ls : Array Slot} {n : Nat} (h : pm_L G L ls n) (hs : ∀ (i : Nat) (v : Value), L'[i]? = some (some v) → L[i]? = some (some v)) : pm_L G L' ls n := by
  refine ⟨h.1, h.2.1, fun q hq => ?_⟩
  obtain ⟨x, hx, rfl⟩ := List.mem_map.mp hq
  exact h.at (hs _ _ (pm_al_mem.mp hx))
/-- behind a store of one word -/
theorem pm_L.st1 {G : pm_G} {L : List (Option Value)} {ls' : Array Slot} {n i : Nat} {v : Value} (h : lv_has ls' n ((i, pm_rv G v) :: ((pm_al L).map (fun q => (q.1, pm_rv G q.2))).filter (fun q => !(q.1 == i) && !(q.1 + 1 == i && q.2.category == 2)))) (hn : ∀ w, L[i - 1]? = some (some w) → w.category = 1) : pm_L G (L.set i (some v)) ls' n := by
  refine ⟨h.1, h.2.1, fun q hq => ?_⟩
  obtain ⟨x, hx, rfl⟩ := List.mem_map.mp hq
  have hx' := pm_al_mem.mp hx
  rw [List.getElem?_set] at hx'
  split at hx'
  · next e =>
    split at hx'
    · next hlt =>
      cases hx'
      have e1 : x = (i, x.2) := by rw [e]
      rw [← e]
      exact h.2.2 _ List.mem_cons_self
    · cases hx'
  · next e =>
    refine h.2.2 _ (List.mem_cons_of_mem _ (List.mem_filter.mpr ⟨List.mem_map.mpr ⟨x, pm_al_mem.mpr hx', rfl⟩, ?_⟩))
    have e1 : (x.1 == i) = false := by simpa using fun q => e q.symm
    simp only [e1, Bool.not_false, Bool.true_and, Bool.not_eq_true', Bool.and_eq_false_iff]
    by_cases e2 : x.1 + 1 = i
    · right
      have e3 : i - 1 = x.1 := by omega
      have := hn x.2 (by rw [e3]; exact hx')
      simp [pm_rv_cat, this]
    · left
      simpa using e2
theorem pm_L.st2 {G : pm_G} {L : List (Option Value)} {ls' : Array Slot} {n i : Nat} {v : Value} (h : lv_has ls' n ((i, pm_rv G v) :: ((pm_al L).map (fun q => (q.1, pm_rv G q.2))).filter (fun q => !(q.1 == i) && (!(q.1 == i + 1) && !(q.1 + 1 == i && q.2.category == 2))))) (hn : ∀ w, L[i - 1]? = some (some w) → w.category = 1) : pm_L G ((L.set i (some v)).set (i + 1) none) ls' n := by
  refine ⟨h.1, h.2.1, fun q hq => ?_⟩
  obtain ⟨x, hx, rfl⟩ := List.mem_map.mp hq
  have hx' := pm_al_mem.mp hx
  rw [List.getElem?_set] at hx'
  split at hx'
  · split at hx'
    · cases hx'
    · cases hx'
  next e0 =>
  rw [List.getElem?_set] at hx'
  split at hx'
  · next e =>
    split at hx'
    · next hlt =>
      cases hx'
      rw [← e]
      exact h.2.2 _ List.mem_cons_self
    · cases hx'
  · next e =>
    refine h.2.2 _ (List.mem_cons_of_mem _ (List.mem_filter.mpr ⟨List.mem_map.mpr ⟨x, pm_al_mem.mpr hx', rfl⟩, ?_⟩))
    have e1 : (x.1 == i) = false := by simpa using fun q => e q.symm
    have e4 : (x.1 == i + 1) = false := by simpa using fun q => e0 q.symm
    simp only [e1, e4, Bool.not_false, Bool.true_and, Bool.not_eq_true', Bool.and_eq_false_iff]
    by_cases e2 : x.1 + 1 = i
    · right
      have e3 : i - 1 = x.1 := by omega
      have := hn x.2 (by rw [e3]; exact hx')
      simp [pm_rv_cat, this]
    · left
      simpa using e2
/-- which instruction ends a method with v, and whether its type lets v through as it is -/
def pm_ri (v : Option Value) : Instr := match v with
  | none => .return_
  | some (.int _) => .ireturn
  | some (.long _) => .lreturn
  | some _ => .areturn
def pm_rok (rt : Option FieldType) (v : Option Value) : Prop := match v with
  | none => rt = none
  | some (.int x) => ∃ ty, rt = some ty ∧ narrow ty (.int x) = .int x
  | some (.long _) => rt = some .long
  | some (.ref _) => ∃ n, rt = some (.object n)
  | some .null => ∃ n, rt = some (.object n)
  | _ => False
def pm_X (E : pm_E) (G : pm_G) (p : Program) (s : State) (m : MethodId) (meth : Method) (c : Code) : Prop :=
  p.tables.exec = Jvm.exec ∧ c.code = pm_cc E ∧ c.maxLocals = pm_nL E ∧ s.vm.findClass E.1.cls = some m.cls ∧ meth.name = E.1.name ∧ pm_K G s
def pm_End (E : pm_E) (G : pm_G) (p : Program) (l : Launch) (e : Env) (s : State) (m : MethodId) (args : Array Value) (below : List Frame) (meth : Method) (c : Code) (Q : State → Prop) (F : Option Value → pm_H → Prop) : Prop :=
  ∀ (v : Option Value) (h1 : pm_H), F v h1 → pm_rok (pm_rt E) v → ∀ (H1 : Heap) (locs1 : List Loc) (cells1 slots1 pc1 : Nat) (ls1 : Array Slot), pm_R G h1 H1 → (∀ q ∈ locs1, G.2.2.2.2 ≤ q.base) → cells1 ≤ (pm_rm E).cells → slots1 ≤ (pm_rm E).slots →
    decode (pm_cc E) pc1 = .ok (pm_ri v, 1) → W p l e (pm_rm E) s m args below meth c H1 locs1 cells1 slots1 Q (F0 m pc1 ls1 (v.toList.map (pm_rv G)))
/-- from pc, with these locals, this stack and this heap, with b cells and slots left, the method comes to an end with F -/
def pm_V (E : pm_E) (pc : Nat) (L : List (Option Value)) (st : List Value) (h : pm_H) (b : Nat × Nat) (F : Option Value → pm_H → Prop) : Prop :=
  ∀ (G : pm_G) (p : Program) (l : Launch) (e : Env) (s : State) (m : MethodId) (args : Array Value) (below : List Frame) (meth : Method) (c : Code) (H : Heap) (locs : List Loc) (ls : Array Slot) (cells slots : Nat) (Q : State → Prop),
    pm_X E G p s m meth c → pm_R G h H → (∀ q ∈ locs, G.2.2.2.2 ≤ q.base) → pm_L G L ls (pm_nL E) → cells + b.1 ≤ (pm_rm E).cells → slots + b.2 ≤ (pm_rm E).slots → pm_End E G p l e s m args below meth c Q F →
    W p l e (pm_rm E) s m args below meth c H locs cells slots Q (F0 m pc ls (st.map (pm_rv G)))
/-- the contract of a method -/
def pm_Cl (E : pm_E) (av : List Value) (h : pm_H) (F : Option Value → pm_H → Prop) : Prop :=
  ∀ (l : Launch) (G : pm_G), Met l E.1 [Cond.code E.1 (pm_cc E) (pm_nL E) (pm_rt E)] (pm_rm E) (va_Pc (av.map (pm_rv G)) (fun U => pm_K G U ∧ pm_R G h U.heap))
    (fun _ _ o t => ∃ (v : Option Value) (h1 : pm_H), o = .returned (v.map (pm_rv G)) ∧ F v h1 ∧ pm_R G h1 t.heap) (pm_rm E).cells (pm_rm E).slots (fun q => G.2.2.2.2 ≤ q)
theorem pm_V.weak {E : pm_E} {pc : Nat} {L L' : List (Option Value)} {st : List Value} {h : pm_H} {b : Nat × Nat} {F : Option Value → pm_H → Prop} (k : pm_V E pc L' st h b F) (hs : ∀ (i : Nat) (v : Value), L'[i]? = some (some v) → L[i]? = some (some v)) : pm_V E pc L st h b F :=
  fun G p l e s m args below meth c H locs ls cells slots Q X hR hl hL hc hsl hE => k G p l e s m args below meth c H locs ls cells slots Q X hR hl (hL.sub hs) hc hsl hE
theorem pm_V.mono {E : pm_E} {pc : Nat} {L : List (Option Value)} {st : List Value} {h : pm_H} {b : Nat × Nat} {F F' : Option Value → pm_H → Prop} (k : pm_V E pc L st h b F) (hs : ∀ v h1, F v h1 → F' v h1) : pm_V E pc L st h b F' :=
  fun G p l e s m args below meth c H locs ls cells slots Q X hR hl hL hc hsl hE => k G p l e s m args below meth c H locs ls cells slots Q X hR hl hL hc hsl (fun v h1 hf => hE v h1 (hs v h1 hf))
theorem pm_V.bud {E : pm_E} {pc : Nat} {L : List (Option Value)} {st : List Value} {h : pm_H} {b b' : Nat × Nat} {F : Option Value → pm_H → Prop} (k : pm_V E pc L st h b' F) (h1 : b'.1 ≤ b.1) (h2 : b'.2 ≤ b.2) : pm_V E pc L st h b F :=
  fun G p l e s m args below meth c H locs ls cells slots Q X hR hl hL hc hsl hE => k G p l e s m args below meth c H locs ls cells slots Q X hR hl hL (by omega) (by omega) hE
/-- the locals with which a method begins -/
def pm_lo : List Value → List (Option Value)
  | [] => []
  | v :: vs => if v.category = 2 then some v :: none :: pm_lo vs else some v :: pm_lo vs
theorem pm_lo_args (G : pm_G) : ∀ (vs : List Value) (k i : Nat) (v : Value), (pm_lo vs)[i]? = some (some v) → (k + i, pm_rv G v) ∈ lv_args k (vs.map (pm_rv G))
  | [], k, i, v, h => by simp [pm_lo] at h
  | x :: vs, k, i, v, h => by
    unfold pm_lo at h
    simp only [List.map_cons, lv_args, pm_rv_cat]
    split at h
    · next hc =>
      match i, h with
      | 0, h => simp at h; subst h; exact List.mem_cons_self
      | 1, h => simp at h
      | i + 2, h =>
        have h' : (pm_lo vs)[i]? = some (some v) := by simpa using h
        have := pm_lo_args G vs (k + 2) i v h'
        rw [if_pos hc]
        refine List.mem_cons_of_mem _ ?_
        rw [show k + (i + 2) = k + 2 + i by omega]
        exact this
    · next hc =>
      match i, h with
      | 0, h => simp at h; subst h; exact List.mem_cons_self
      | i + 1, h =>
        have h' : (pm_lo vs)[i]? = some (some v) := by simpa using h
        have := pm_lo_args G vs (k + 1) i v h'
        rw [if_neg hc]
        refine List.mem_cons_of_mem _ ?_
        rw [show k + (i + 1) = k + 1 + i by omega]
        exact this
theorem pm_lo_len (G : pm_G) : ∀ vs : List Value, (lg_sl (vs.map (pm_rv G))).length = (pm_lo vs).length
  | [] => rfl
  | v :: vs => by
    have ih := pm_lo_len G vs
    simp only [lg_sl, List.map_cons, List.flatMap_cons, List.length_append, pm_lo, pm_rv_cat] at ih ⊢
    split <;> simp [ih] <;> omega
/-- a contract out of a run of the body -/
theorem pm_enter {E : pm_E} {av : List Value} {h : pm_H} {F : Option Value → pm_H → Prop} (hp : plainName E.1.cls = true) (hn : (pm_lo av).length ≤ pm_nL E)
    (k : pm_V E 0 (pm_lo av ++ List.replicate (pm_nL E - (pm_lo av).length) none) [] h ((pm_rm E).cells, (pm_rm E).slots) F) : pm_Cl E av h F := by
  intro l G
  refine Met.ofW (cc := pm_cc E) (maxL := pm_nL E) (ret := pm_rt E) hp rfl ?_
  intro p e s m args below meth c s₁ B hml hv
  obtain ⟨rfl, hK, hR⟩ := hv
  have hx := B.exec
  have hb := B.bytes
  have hr := B.returns
  have hown : s.vm.findClass E.1.cls = some m.cls := findClass_of_methodNamed B.named
  have hlocks := B.notSynchronized
  have hin : meth.name = E.1.name := (name_of_methodNamed B.named B.method).1
  have hlen : (lg_sl (av.map (pm_rv G))).length ≤ pm_nL E := by rw [pm_lo_len]; exact hn
  have hl := lv_entry (av.map (pm_rv G)) (n := pm_nL E) hlen
  rw [lg_entry_eq]
  generalize (lg_sl (av.map (pm_rv G)) ++ List.replicate (pm_nL E - (lg_sl (av.map (pm_rv G))).length) Slot.unset).toArray = ls at hl ⊢
  refine k G p l e s m (av.map (pm_rv G)).toArray below meth c s.heap [] ls 0 0 _ ⟨hx, hb, hml, hown, hin, hK⟩ hR (fun q hq => by cases hq) ?_ (by simp) (by simp) ?_
  · refine ⟨hl.1, hl.2.1, fun q hq => ?_⟩
    obtain ⟨x, hx, rfl⟩ := List.mem_map.mp hq
    have hx' := pm_al_mem.mp hx
    by_cases hlt : x.1 < (pm_lo av).length
    · rw [List.getElem?_append_left hlt] at hx'
      have := pm_lo_args G av 0 x.1 x.2 hx'
      rw [Nat.zero_add] at this
      exact hl.2.2 _ this
    · rw [List.getElem?_append_right (by omega)] at hx'
      have := List.eq_of_mem_replicate (List.mem_of_getElem? hx')
      cases this
  · intro v h1 hF hok H1 locs1 cells1 slots1 pc1 ls1 hR1 hl1 hc1 hs1 hd
    refine W.widen (k := (pm_rm E).cells) (n := (pm_rm E).slots) hc1 hs1 ?_
    cases v with
    | none => exact W.vret hx hb (by rw [hr]; exact hok) (fun t ht hW => ⟨none, h1, rfl, hF, by rw [ht]; exact hR1⟩) hl1 hd
    | some v =>
      cases v with
      | int x =>
        obtain ⟨ty, e1, e2⟩ := hok
        exact W.zret (ty := ty) hx hb (by rw [hr]; exact e1) e2 (fun t ht hW => ⟨some (.int x), h1, rfl, hF, by rw [ht]; exact hR1⟩) hl1 hd
      | long x => exact W.lret hx hb (by rw [hr]; exact hok) (fun t ht hW => ⟨some (.long x), h1, rfl, hF, by rw [ht]; exact hR1⟩) hl1 hd
      | ref a =>
        obtain ⟨n, e1⟩ := hok
        exact W.aret (rt := .object n) hx hb (by rw [hr]; exact e1) (Or.inl ⟨n, rfl⟩) (Or.inr ⟨_, rfl⟩) (fun t ht hW => ⟨some (.ref a), h1, rfl, hF, by rw [ht]; exact hR1⟩) hl1 hd
      | null =>
        obtain ⟨n, e1⟩ := hok
        exact W.aret (rt := .object n) hx hb (by rw [hr]; exact e1) (Or.inl ⟨n, rfl⟩) (Or.inl rfl) (fun t ht hW => ⟨some .null, h1, rfl, hF, by rw [ht]; exact hR1⟩) hl1 hd
      | float x => exact hok.elim
      | double x => exact hok.elim
      | retAddr x => exact hok.elim
def pm_D (E : pm_E) (pc n : Nat) (i : Instr) (q : Nat) : Prop := decode (pm_cc E) pc = .ok (i, n) ∧ pc + n = q
def pm_B (E : pm_E) (pc : Nat) (i : Int → Instr) (t q : Nat) : Prop := ∃ off : Int, decode (pm_cc E) pc = .ok (i off, 3) ∧ (pc : Int) + off = (t : Int) ∧ pc + 3 = q
/-- an instruction that lays a constant on the stack -/
def pm_P (E : pm_E) (pc : Nat) (v : Int32) (q : Nat) : Prop := (∃ n : Int, decode (pm_cc E) pc = .ok (.iconst n, 1) ∧ Int32.ofInt n = v ∧ pc + 1 = q) ∨ (∃ n : Int, decode (pm_cc E) pc = .ok (.bipush n, 2) ∧ (Int8.ofInt n).toInt32 = v ∧ pc + 2 = q) ∨ (∃ n : Int, decode (pm_cc E) pc = .ok (.sipush n, 3) ∧ (Int16.ofInt n).toInt32 = v ∧ pc + 3 = q) ∨ (∃ i : Nat, decode (pm_cc E) pc = .ok (.ldc i, 2) ∧ Cond.constant E.1.cls i v ∈ pm_tbl ∧ pc + 2 = q) ∨ (∃ i : Nat, decode (pm_cc E) pc = .ok (.ldc_w i, 3) ∧ Cond.constant E.1.cls i v ∈ pm_tbl ∧ pc + 3 = q)
def pm_PL (E : pm_E) (pc : Nat) (v : Int64) (q : Nat) : Prop := (∃ n : Fin 2, decode (pm_cc E) pc = .ok (.lconst n, 1) ∧ Int64.ofNat (n : Nat) = v ∧ pc + 1 = q) ∨ (∃ i : Nat, decode (pm_cc E) pc = .ok (.ldc2_w i, 3) ∧ Cond.constantLong E.1.cls i v ∈ pm_tbl ∧ pc + 3 = q)
def pm_i (E : pm_E) (pc : Nat) (f : Fin 4 → Instr) (g : Nat → Instr) (i q : Nat) : Prop := (∃ k : Fin 4, decode (pm_cc E) pc = .ok (f k, 1) ∧ (k : Nat) = i ∧ pc + 1 = q) ∨ (decode (pm_cc E) pc = .ok (g i, 2) ∧ pc + 2 = q)
section PM
variable {E : pm_E} {pc q : Nat} {L : List (Option Value)} {st : List Value} {h : pm_H} {b : Nat × Nat} {F : Option Value → pm_H → Prop}
theorem r_push {v : Int32} (hd : pm_P E pc v q) (k : pm_V E q L (.int v :: st) h b F) : pm_V E pc L st h b F := by
  intro G p l e s m args below meth c H locs ls cells slots Q X hR hl hL hc hs hE
  have k := k G p l e s m args below meth c H locs ls cells slots Q X hR hl hL hc hs hE
  rcases hd with ⟨n, d, hv, rfl⟩ | ⟨n, d, hv, rfl⟩ | ⟨n, d, hv, rfl⟩ | ⟨i, d, hv, rfl⟩ | ⟨i, d, hv, rfl⟩
  · exact lv_iconst X.1 X.2.1 d hv k
  · exact lv_bipush X.1 X.2.1 d hv k
  · exact lv_sipush X.1 X.2.1 d hv k
  · exact lv_ldc X.1 X.2.1 X.2.2.2.1 (X.2.2.2.2.2.2.1 _ hv args) d k
  · exact lv_ldcw X.1 X.2.1 X.2.2.2.1 (X.2.2.2.2.2.2.1 _ hv args) d k
theorem r_pushl {v : Int64} (hd : pm_PL E pc v q) (k : pm_V E q L (.long v :: st) h b F) : pm_V E pc L st h b F := by
  intro G p l e s m args below meth c H locs ls cells slots Q X hR hl hL hc hs hE
  have k := k G p l e s m args below meth c H locs ls cells slots Q X hR hl hL hc hs hE
  rcases hd with ⟨n, d, hv, rfl⟩ | ⟨i, d, hv, rfl⟩
  · exact lv_lconst X.1 X.2.1 d hv k
  · exact lv_ldc2 X.1 X.2.1 X.2.2.2.1 (X.2.2.2.2.2.2.1 _ hv args) d k
theorem r_null (hd : pm_D E pc 1 .aconst_null q) (k : pm_V E q L (.null :: st) h b F) : pm_V E pc L st h b F := by
  intro G p l e s m args below meth c H locs ls cells slots Q X hR hl hL hc hs hE
  obtain ⟨d, rfl⟩ := hd
  exact lv_null X.1 X.2.1 d (k G p l e s m args below meth c H locs ls cells slots Q X hR hl hL hc hs hE)
theorem r_iloadG {i : Nat} {x : Int32} (hd : pm_i E pc .iload_n .iload i q) (e0 : L[i]? = some (some (.int x))) (k : pm_V E q L (.int x :: st) h b F) : pm_V E pc L st h b F := by
  intro G p l e s m args below meth c H locs ls cells slots Q X hR hl hL hc hs hE
  have k := k G p l e s m args below meth c H locs ls cells slots Q X hR hl hL hc hs hE
  rcases hd with ⟨n, d, hv, rfl⟩ | ⟨d, rfl⟩
  · exact lv_iload_n X.1 X.2.1 d hv (hL.at e0) k
  · exact lv_iload X.1 X.2.1 d (hL.at e0) k
theorem r_lloadG {i : Nat} {x : Int64} (hd : pm_i E pc .lload_n .lload i q) (e0 : L[i]? = some (some (.long x))) (k : pm_V E q L (.long x :: st) h b F) : pm_V E pc L st h b F := by
  intro G p l e s m args below meth c H locs ls cells slots Q X hR hl hL hc hs hE
  have k := k G p l e s m args below meth c H locs ls cells slots Q X hR hl hL hc hs hE
  rcases hd with ⟨n, d, hv, rfl⟩ | ⟨d, rfl⟩
  · exact lv_lload_n X.1 X.2.1 d hv (hL.at e0) k
  · exact lv_lload X.1 X.2.1 d (hL.at e0) k
theorem r_aloadG {i : Nat} {x : Nat} (hd : pm_i E pc .aload_n .aload i q) (e0 : L[i]? = some (some (.ref x))) (k : pm_V E q L (.ref x :: st) h b F) : pm_V E pc L st h b F := by
  intro G p l e s m args below meth c H locs ls cells slots Q X hR hl hL hc hs hE
  have k := k G p l e s m args below meth c H locs ls cells slots Q X hR hl hL hc hs hE
  rcases hd with ⟨n, d, hv, rfl⟩ | ⟨d, rfl⟩
  · exact lv_aload_n X.1 X.2.1 d hv (hL.at e0) k
  · exact lv_aload X.1 X.2.1 d (hL.at e0) k
theorem r_aloadNG {i : Nat} (hd : pm_i E pc .aload_n .aload i q) (e0 : L[i]? = some (some .null)) (k : pm_V E q L (.null :: st) h b F) : pm_V E pc L st h b F := by
  intro G p l e s m args below meth c H locs ls cells slots Q X hR hl hL hc hs hE
  have k := k G p l e s m args below meth c H locs ls cells slots Q X hR hl hL hc hs hE
  rcases hd with ⟨n, d, hv, rfl⟩ | ⟨d, rfl⟩
  · exact lv_aload_nN X.1 X.2.1 d hv (hL.at e0) k
  · exact lv_aloadN X.1 X.2.1 d (hL.at e0) k
theorem r_istoreG {i : Nat} {x : Int32} (hd : pm_i E pc .istore_n .istore i q) (hi : i < pm_nL E) (hn : ∀ w, L[i - 1]? = some (some w) → w.category = 1) (k : pm_V E q (L.set i (some (.int x))) st h b F) : pm_V E pc L (.int x :: st) h b F := by
  intro G p l e s m args below meth c H locs ls cells slots Q X hR hl hL hc hs hE
  rcases hd with ⟨n, d, hv, rfl⟩ | ⟨d, rfl⟩
  · exact lv_istore_n X.1 X.2.1 d hv hL hi rfl (fun ls' h' => k G p l e s m args below meth c H locs ls' cells slots Q X hR hl (pm_L.st1 (v := .int x) h' hn) hc hs hE)
  · exact lv_istore X.1 X.2.1 d hL hi rfl (fun ls' h' => k G p l e s m args below meth c H locs ls' cells slots Q X hR hl (pm_L.st1 (v := .int x) h' hn) hc hs hE)
theorem r_astoreG {i : Nat} {x : Nat} (hd : pm_i E pc .astore_n .astore i q) (hi : i < pm_nL E) (hn : ∀ w, L[i - 1]? = some (some w) → w.category = 1) (k : pm_V E q (L.set i (some (.ref x))) st h b F) : pm_V E pc L (.ref x :: st) h b F := by
  intro G p l e s m args below meth c H locs ls cells slots Q X hR hl hL hc hs hE
  rcases hd with ⟨n, d, hv, rfl⟩ | ⟨d, rfl⟩
  · exact lv_astore_n X.1 X.2.1 d hv hL hi rfl (fun ls' h' => k G p l e s m args below meth c H locs ls' cells slots Q X hR hl (pm_L.st1 (v := .ref x) h' hn) hc hs hE)
  · exact lv_astore X.1 X.2.1 d hL hi rfl (fun ls' h' => k G p l e s m args below meth c H locs ls' cells slots Q X hR hl (pm_L.st1 (v := .ref x) h' hn) hc hs hE)
theorem r_astoreNG {i : Nat} (hd : pm_i E pc .astore_n .astore i q) (hi : i < pm_nL E) (hn : ∀ w, L[i - 1]? = some (some w) → w.category = 1) (k : pm_V E q (L.set i (some .null)) st h b F) : pm_V E pc L (.null :: st) h b F := by
  intro G p l e s m args below meth c H locs ls cells slots Q X hR hl hL hc hs hE
  rcases hd with ⟨n, d, hv, rfl⟩ | ⟨d, rfl⟩
  · exact lv_astore_nN X.1 X.2.1 d hv hL hi rfl (fun ls' h' => k G p l e s m args below meth c H locs ls' cells slots Q X hR hl (pm_L.st1 (v := .null) h' hn) hc hs hE)
  · exact lv_astoreN X.1 X.2.1 d hL hi rfl (fun ls' h' => k G p l e s m args below meth c H locs ls' cells slots Q X hR hl (pm_L.st1 (v := .null) h' hn) hc hs hE)
theorem r_lstoreG {i : Nat} {x : Int64} (hd : pm_i E pc .lstore_n .lstore i q) (hi : i + 1 < pm_nL E) (hn : ∀ w, L[i - 1]? = some (some w) → w.category = 1) (k : pm_V E q ((L.set i (some (.long x))).set (i + 1) none) st h b F) : pm_V E pc L (.long x :: st) h b F := by
  intro G p l e s m args below meth c H locs ls cells slots Q X hR hl hL hc hs hE
  rcases hd with ⟨n, d, hv, rfl⟩ | ⟨d, rfl⟩
  · exact lv_lstore_n X.1 X.2.1 d hv hL hi rfl (fun ls' h' => k G p l e s m args below meth c H locs ls' cells slots Q X hR hl (pm_L.st2 (v := .long x) h' hn) hc hs hE)
  · exact lv_lstore X.1 X.2.1 d hL hi rfl (fun ls' h' => k G p l e s m args below meth c H locs ls' cells slots Q X hR hl (pm_L.st2 (v := .long x) h' hn) hc hs hE)
def pm_I (E : pm_E) (pc i : Nat) (n : Int32) (q : Nat) : Prop := ∃ z : Int, decode (pm_cc E) pc = .ok (.iinc i z, 3) ∧ Int32.ofInt z = n ∧ pc + 3 = q
theorem r_iincG {i : Nat} {x n : Int32} (hd : pm_I E pc i n q) (e0 : L[i]? = some (some (.int x))) (hi : i < pm_nL E) (hn : ∀ w, L[i - 1]? = some (some w) → w.category = 1) (k : pm_V E q (L.set i (some (.int (x + n)))) st h b F) : pm_V E pc L st h b F := by
  intro G p l e s m args below meth c H locs ls cells slots Q X hR hl hL hc hs hE
  obtain ⟨z, d, hz, rfl⟩ := hd
  have hm : (i, pm_rv G (.int x)) ∈ (pm_al L).map (fun q => (q.1, pm_rv G q.2)) := List.mem_map.mpr ⟨(i, .int x), pm_al_mem.mpr e0, rfl⟩
  obtain ⟨j, hj⟩ := List.mem_iff_getElem?.mp hm
  exact lv_iinc X.1 X.2.1 d hL hj (v := x + n) (by rw [hz]) hi rfl (fun ls' h' => k G p l e s m args below meth c H locs ls' cells slots Q X hR hl (pm_L.st1 (v := .int (x + n)) h' hn) hc hs hE)
theorem r_iload_0 {R : List (Option Value)} {x : Int32} (hd : pm_i E pc .iload_n .iload 0 q) (k : pm_V E q (some (.int x) :: R) (.int x :: st) h b F) : pm_V E pc (some (.int x) :: R) st h b F := r_iloadG hd rfl k
theorem r_lload_0 {R : List (Option Value)} {x : Int64} (hd : pm_i E pc .lload_n .lload 0 q) (k : pm_V E q (some (.long x) :: R) (.long x :: st) h b F) : pm_V E pc (some (.long x) :: R) st h b F := r_lloadG hd rfl k
theorem r_aload_0 {R : List (Option Value)} {x : Nat} (hd : pm_i E pc .aload_n .aload 0 q) (k : pm_V E q (some (.ref x) :: R) (.ref x :: st) h b F) : pm_V E pc (some (.ref x) :: R) st h b F := r_aloadG hd rfl k
theorem r_aloadN_0 {R : List (Option Value)} (hd : pm_i E pc .aload_n .aload 0 q) (k : pm_V E q (some .null :: R) (.null :: st) h b F) : pm_V E pc (some .null :: R) st h b F := r_aloadNG hd rfl k
theorem r_istore_0 {o : Option Value} {R : List (Option Value)} {x : Int32} (hd : pm_i E pc .istore_n .istore 0 q) (hi : 0 < pm_nL E) (hn : ∀ w, o = some w → w.category = 1) (k : pm_V E q (some (.int x) :: R) st h b F) : pm_V E pc (o :: R) (.int x :: st) h b F := r_istoreG hd hi (fun w hw => hn w (Option.some.inj hw)) k
theorem r_astore_0 {o : Option Value} {R : List (Option Value)} {x : Nat} (hd : pm_i E pc .astore_n .astore 0 q) (hi : 0 < pm_nL E) (hn : ∀ w, o = some w → w.category = 1) (k : pm_V E q (some (.ref x) :: R) st h b F) : pm_V E pc (o :: R) (.ref x :: st) h b F := r_astoreG hd hi (fun w hw => hn w (Option.some.inj hw)) k
theorem r_astoreN_0 {o : Option Value} {R : List (Option Value)} (hd : pm_i E pc .astore_n .astore 0 q) (hi : 0 < pm_nL E) (hn : ∀ w, o = some w → w.category = 1) (k : pm_V E q (some (.null) :: R) st h b F) : pm_V E pc (o :: R) (.null :: st) h b F := r_astoreNG hd hi (fun w hw => hn w (Option.some.inj hw)) k
theorem r_lstore_0 {o o2 : Option Value} {R : List (Option Value)} {x : Int64} (hd : pm_i E pc .lstore_n .lstore 0 q) (hi : 1 < pm_nL E) (hn : ∀ w, o = some w → w.category = 1) (k : pm_V E q (some (.long x) :: none :: R) st h b F) : pm_V E pc (o :: o2 :: R) (.long x :: st) h b F := r_lstoreG hd hi (fun w hw => hn w (Option.some.inj hw)) k
theorem r_iinc_0 {R : List (Option Value)} {x n : Int32} (hd : pm_I E pc 0 n q) (hi : 0 < pm_nL E) (k : pm_V E q (some (.int (x + n)) :: R) st h b F) : pm_V E pc (some (.int x) :: R) st h b F := r_iincG hd rfl hi (fun w hw => by cases hw; rfl) k
theorem r_iload_1 {l0 : Option Value} {R : List (Option Value)} {x : Int32} (hd : pm_i E pc .iload_n .iload 1 q) (k : pm_V E q (l0 :: some (.int x) :: R) (.int x :: st) h b F) : pm_V E pc (l0 :: some (.int x) :: R) st h b F := r_iloadG hd rfl k
theorem r_lload_1 {l0 : Option Value} {R : List (Option Value)} {x : Int64} (hd : pm_i E pc .lload_n .lload 1 q) (k : pm_V E q (l0 :: some (.long x) :: R) (.long x :: st) h b F) : pm_V E pc (l0 :: some (.long x) :: R) st h b F := r_lloadG hd rfl k
theorem r_aload_1 {l0 : Option Value} {R : List (Option Value)} {x : Nat} (hd : pm_i E pc .aload_n .aload 1 q) (k : pm_V E q (l0 :: some (.ref x) :: R) (.ref x :: st) h b F) : pm_V E pc (l0 :: some (.ref x) :: R) st h b F := r_aloadG hd rfl k
theorem r_aloadN_1 {l0 : Option Value} {R : List (Option Value)} (hd : pm_i E pc .aload_n .aload 1 q) (k : pm_V E q (l0 :: some .null :: R) (.null :: st) h b F) : pm_V E pc (l0 :: some .null :: R) st h b F := r_aloadNG hd rfl k
theorem r_istore_1 {l0 : Option Value} {o : Option Value} {R : List (Option Value)} {x : Int32} (hd : pm_i E pc .istore_n .istore 1 q) (hi : 1 < pm_nL E) (hn : ∀ w, l0 = some w → w.category = 1) (k : pm_V E q (l0 :: some (.int x) :: R) st h b F) : pm_V E pc (l0 :: o :: R) (.int x :: st) h b F := r_istoreG hd hi (fun w hw => hn w (Option.some.inj hw)) k
theorem r_astore_1 {l0 : Option Value} {o : Option Value} {R : List (Option Value)} {x : Nat} (hd : pm_i E pc .astore_n .astore 1 q) (hi : 1 < pm_nL E) (hn : ∀ w, l0 = some w → w.category = 1) (k : pm_V E q (l0 :: some (.ref x) :: R) st h b F) : pm_V E pc (l0 :: o :: R) (.ref x :: st) h b F := r_astoreG hd hi (fun w hw => hn w (Option.some.inj hw)) k
theorem r_astoreN_1 {l0 : Option Value} {o : Option Value} {R : List (Option Value)} (hd : pm_i E pc .astore_n .astore 1 q) (hi : 1 < pm_nL E) (hn : ∀ w, l0 = some w → w.category = 1) (k : pm_V E q (l0 :: some (.null) :: R) st h b F) : pm_V E pc (l0 :: o :: R) (.null :: st) h b F := r_astoreNG hd hi (fun w hw => hn w (Option.some.inj hw)) k
theorem r_lstore_1 {l0 : Option Value} {o o2 : Option Value} {R : List (Option Value)} {x : Int64} (hd : pm_i E pc .lstore_n .lstore 1 q) (hi : 2 < pm_nL E) (hn : ∀ w, l0 = some w → w.category = 1) (k : pm_V E q (l0 :: some (.long x) :: none :: R) st h b F) : pm_V E pc (l0 :: o :: o2 :: R) (.long x :: st) h b F := r_lstoreG hd hi (fun w hw => hn w (Option.some.inj hw)) k
theorem r_iinc_1 {l0 : Option Value} {R : List (Option Value)} {x n : Int32} (hd : pm_I E pc 1 n q) (hi : 1 < pm_nL E) (hn : ∀ w, l0 = some w → w.category = 1) (k : pm_V E q (l0 :: some (.int (x + n)) :: R) st h b F) : pm_V E pc (l0 :: some (.int x) :: R) st h b F := r_iincG hd rfl hi (fun w hw => hn w (Option.some.inj hw)) k
theorem r_iload_2 {l0 l1 : Option Value} {R : List (Option Value)} {x : Int32} (hd : pm_i E pc .iload_n .iload 2 q) (k : pm_V E q (l0 :: l1 :: some (.int x) :: R) (.int x :: st) h b F) : pm_V E pc (l0 :: l1 :: some (.int x) :: R) st h b F := r_iloadG hd rfl k
theorem r_lload_2 {l0 l1 : Option Value} {R : List (Option Value)} {x : Int64} (hd : pm_i E pc .lload_n .lload 2 q) (k : pm_V E q (l0 :: l1 :: some (.long x) :: R) (.long x :: st) h b F) : pm_V E pc (l0 :: l1 :: some (.long x) :: R) st h b F := r_lloadG hd rfl k
theorem r_aload_2 {l0 l1 : Option Value} {R : List (Option Value)} {x : Nat} (hd : pm_i E pc .aload_n .aload 2 q) (k : pm_V E q (l0 :: l1 :: some (.ref x) :: R) (.ref x :: st) h b F) : pm_V E pc (l0 :: l1 :: some (.ref x) :: R) st h b F := r_aloadG hd rfl k
theorem r_aloadN_2 {l0 l1 : Option Value} {R : List (Option Value)} (hd : pm_i E pc .aload_n .aload 2 q) (k : pm_V E q (l0 :: l1 :: some .null :: R) (.null :: st) h b F) : pm_V E pc (l0 :: l1 :: some .null :: R) st h b F := r_aloadNG hd rfl k
theorem r_istore_2 {l0 l1 : Option Value} {o : Option Value} {R : List (Option Value)} {x : Int32} (hd : pm_i E pc .istore_n .istore 2 q) (hi : 2 < pm_nL E) (hn : ∀ w, l1 = some w → w.category = 1) (k : pm_V E q (l0 :: l1 :: some (.int x) :: R) st h b F) : pm_V E pc (l0 :: l1 :: o :: R) (.int x :: st) h b F := r_istoreG hd hi (fun w hw => hn w (Option.some.inj hw)) k
theorem r_astore_2 {l0 l1 : Option Value} {o : Option Value} {R : List (Option Value)} {x : Nat} (hd : pm_i E pc .astore_n .astore 2 q) (hi : 2 < pm_nL E) (hn : ∀ w, l1 = some w → w.category = 1) (k : pm_V E q (l0 :: l1 :: some (.ref x) :: R) st h b F) : pm_V E pc (l0 :: l1 :: o :: R) (.ref x :: st) h b F := r_astoreG hd hi (fun w hw => hn w (Option.some.inj hw)) k
theorem r_astoreN_2 {l0 l1 : Option Value} {o : Option Value} {R : List (Option Value)} (hd : pm_i E pc .astore_n .astore 2 q) (hi : 2 < pm_nL E) (hn : ∀ w, l1 = some w → w.category = 1) (k : pm_V E q (l0 :: l1 :: some (.null) :: R) st h b F) : pm_V E pc (l0 :: l1 :: o :: R) (.null :: st) h b F := r_astoreNG hd hi (fun w hw => hn w (Option.some.inj hw)) k
theorem r_lstore_2 {l0 l1 : Option Value} {o o2 : Option Value} {R : List (Option Value)} {x : Int64} (hd : pm_i E pc .lstore_n .lstore 2 q) (hi : 3 < pm_nL E) (hn : ∀ w, l1 = some w → w.category = 1) (k : pm_V E q (l0 :: l1 :: some (.long x) :: none :: R) st h b F) : pm_V E pc (l0 :: l1 :: o :: o2 :: R) (.long x :: st) h b F := r_lstoreG hd hi (fun w hw => hn w (Option.some.inj hw)) k
theorem r_iinc_2 {l0 l1 : Option Value} {R : List (Option Value)} {x n : Int32} (hd : pm_I E pc 2 n q) (hi : 2 < pm_nL E) (hn : ∀ w, l1 = some w → w.category = 1) (k : pm_V E q (l0 :: l1 :: some (.int (x + n)) :: R) st h b F) : pm_V E pc (l0 :: l1 :: some (.int x) :: R) st h b F := r_iincG hd rfl hi (fun w hw => hn w (Option.some.inj hw)) k
theorem r_iload_3 {l0 l1 l2 : Option Value} {R : List (Option Value)} {x : Int32} (hd : pm_i E pc .iload_n .iload 3 q) (k : pm_V E q (l0 :: l1 :: l2 :: some (.int x) :: R) (.int x :: st) h b F) : pm_V E pc (l0 :: l1 :: l2 :: some (.int x) :: R) st h b F := r_iloadG hd rfl k
theorem r_lload_3 {l0 l1 l2 : Option Value} {R : List (Option Value)} {x : Int64} (hd : pm_i E pc .lload_n .lload 3 q) (k : pm_V E q (l0 :: l1 :: l2 :: some (.long x) :: R) (.long x :: st) h b F) : pm_V E pc (l0 :: l1 :: l2 :: some (.long x) :: R) st h b F := r_lloadG hd rfl k
theorem r_aload_3 {l0 l1 l2 : Option Value} {R : List (Option Value)} {x : Nat} (hd : pm_i E pc .aload_n .aload 3 q) (k : pm_V E q (l0 :: l1 :: l2 :: some (.ref x) :: R) (.ref x :: st) h b F) : pm_V E pc (l0 :: l1 :: l2 :: some (.ref x) :: R) st h b F := r_aloadG hd rfl k
theorem r_aloadN_3 {l0 l1 l2 : Option Value} {R : List (Option Value)} (hd : pm_i E pc .aload_n .aload 3 q) (k : pm_V E q (l0 :: l1 :: l2 :: some .null :: R) (.null :: st) h b F) : pm_V E pc (l0 :: l1 :: l2 :: some .null :: R) st h b F := r_aloadNG hd rfl k
theorem r_istore_3 {l0 l1 l2 : Option Value} {o : Option Value} {R : List (Option Value)} {x : Int32} (hd : pm_i E pc .istore_n .istore 3 q) (hi : 3 < pm_nL E) (hn : ∀ w, l2 = some w → w.category = 1) (k : pm_V E q (l0 :: l1 :: l2 :: some (.int x) :: R) st h b F) : pm_V E pc (l0 :: l1 :: l2 :: o :: R) (.int x :: st) h b F := r_istoreG hd hi (fun w hw => hn w (Option.some.inj hw)) k
theorem r_astore_3 {l0 l1 l2 : Option Value} {o : Option Value} {R : List (Option Value)} {x : Nat} (hd : pm_i E pc .astore_n .astore 3 q) (hi : 3 < pm_nL E) (hn : ∀ w, l2 = some w → w.category = 1) (k : pm_V E q (l0 :: l1 :: l2 :: some (.ref x) :: R) st h b F) : pm_V E pc (l0 :: l1 :: l2 :: o :: R) (.ref x :: st) h b F := r_astoreG hd hi (fun w hw => hn w (Option.some.inj hw)) k
theorem r_astoreN_3 {l0 l1 l2 : Option Value} {o : Option Value} {R : List (Option Value)} (hd : pm_i E pc .astore_n .astore 3 q) (hi : 3 < pm_nL E) (hn : ∀ w, l2 = some w → w.category = 1) (k : pm_V E q (l0 :: l1 :: l2 :: some (.null) :: R) st h b F) : pm_V E pc (l0 :: l1 :: l2 :: o :: R) (.null :: st) h b F := r_astoreNG hd hi (fun w hw => hn w (Option.some.inj hw)) k
theorem r_lstore_3 {l0 l1 l2 : Option Value} {o o2 : Option Value} {R : List (Option Value)} {x : Int64} (hd : pm_i E pc .lstore_n .lstore 3 q) (hi : 4 < pm_nL E) (hn : ∀ w, l2 = some w → w.category = 1) (k : pm_V E q (l0 :: l1 :: l2 :: some (.long x) :: none :: R) st h b F) : pm_V E pc (l0 :: l1 :: l2 :: o :: o2 :: R) (.long x :: st) h b F := r_lstoreG hd hi (fun w hw => hn w (Option.some.inj hw)) k
theorem r_iinc_3 {l0 l1 l2 : Option Value} {R : List (Option Value)} {x n : Int32} (hd : pm_I E pc 3 n q) (hi : 3 < pm_nL E) (hn : ∀ w, l2 = some w → w.category = 1) (k : pm_V E q (l0 :: l1 :: l2 :: some (.int (x + n)) :: R) st h b F) : pm_V E pc (l0 :: l1 :: l2 :: some (.int x) :: R) st h b F := r_iincG hd rfl hi (fun w hw => hn w (Option.some.inj hw)) k
theorem r_iload_4 {l0 l1 l2 l3 : Option Value} {R : List (Option Value)} {x : Int32} (hd : pm_i E pc .iload_n .iload 4 q) (k : pm_V E q (l0 :: l1 :: l2 :: l3 :: some (.int x) :: R) (.int x :: st) h b F) : pm_V E pc (l0 :: l1 :: l2 :: l3 :: some (.int x) :: R) st h b F := r_iloadG hd rfl k
theorem r_lload_4 {l0 l1 l2 l3 : Option Value} {R : List (Option Value)} {x : Int64} (hd : pm_i E pc .lload_n .lload 4 q) (k : pm_V E q (l0 :: l1 :: l2 :: l3 :: some (.long x) :: R) (.long x :: st) h b F) : pm_V E pc (l0 :: l1 :: l2 :: l3 :: some (.long x) :: R) st h b F := r_lloadG hd rfl k
theorem r_aload_4 {l0 l1 l2 l3 : Option Value} {R : List (Option Value)} {x : Nat} (hd : pm_i E pc .aload_n .aload 4 q) (k : pm_V E q (l0 :: l1 :: l2 :: l3 :: some (.ref x) :: R) (.ref x :: st) h b F) : pm_V E pc (l0 :: l1 :: l2 :: l3 :: some (.ref x) :: R) st h b F := r_aloadG hd rfl k
theorem r_aloadN_4 {l0 l1 l2 l3 : Option Value} {R : List (Option Value)} (hd : pm_i E pc .aload_n .aload 4 q) (k : pm_V E q (l0 :: l1 :: l2 :: l3 :: some .null :: R) (.null :: st) h b F) : pm_V E pc (l0 :: l1 :: l2 :: l3 :: some .null :: R) st h b F := r_aloadNG hd rfl k
theorem r_istore_4 {l0 l1 l2 l3 : Option Value} {o : Option Value} {R : List (Option Value)} {x : Int32} (hd : pm_i E pc .istore_n .istore 4 q) (hi : 4 < pm_nL E) (hn : ∀ w, l3 = some w → w.category = 1) (k : pm_V E q (l0 :: l1 :: l2 :: l3 :: some (.int x) :: R) st h b F) : pm_V E pc (l0 :: l1 :: l2 :: l3 :: o :: R) (.int x :: st) h b F := r_istoreG hd hi (fun w hw => hn w (Option.some.inj hw)) k
theorem r_astore_4 {l0 l1 l2 l3 : Option Value} {o : Option Value} {R : List (Option Value)} {x : Nat} (hd : pm_i E pc .astore_n .astore 4 q) (hi : 4 < pm_nL E) (hn : ∀ w, l3 = some w → w.category = 1) (k : pm_V E q (l0 :: l1 :: l2 :: l3 :: some (.ref x) :: R) st h b F) : pm_V E pc (l0 :: l1 :: l2 :: l3 :: o :: R) (.ref x :: st) h b F := r_astoreG hd hi (fun w hw => hn w (Option.some.inj hw)) k
theorem r_astoreN_4 {l0 l1 l2 l3 : Option Value} {o : Option Value} {R : List (Option Value)} (hd : pm_i E pc .astore_n .astore 4 q) (hi : 4 < pm_nL E) (hn : ∀ w, l3 = some w → w.category = 1) (k : pm_V E q (l0 :: l1 :: l2 :: l3 :: some (.null) :: R) st h b F) : pm_V E pc (l0 :: l1 :: l2 :: l3 :: o :: R) (.null :: st) h b F := r_astoreNG hd hi (fun w hw => hn w (Option.some.inj hw)) k
theorem r_lstore_4 {l0 l1 l2 l3 : Option Value} {o o2 : Option Value} {R : List (Option Value)} {x : Int64} (hd : pm_i E pc .lstore_n .lstore 4 q) (hi : 5 < pm_nL E) (hn : ∀ w, l3 = some w → w.category = 1) (k : pm_V E q (l0 :: l1 :: l2 :: l3 :: some (.long x) :: none :: R) st h b F) : pm_V E pc (l0 :: l1 :: l2 :: l3 :: o :: o2 :: R) (.long x :: st) h b F := r_lstoreG hd hi (fun w hw => hn w (Option.some.inj hw)) k
theorem r_iinc_4 {l0 l1 l2 l3 : Option Value} {R : List (Option Value)} {x n : Int32} (hd : pm_I E pc 4 n q) (hi : 4 < pm_nL E) (hn : ∀ w, l3 = some w → w.category = 1) (k : pm_V E q (l0 :: l1 :: l2 :: l3 :: some (.int (x + n)) :: R) st h b F) : pm_V E pc (l0 :: l1 :: l2 :: l3 :: some (.int x) :: R) st h b F := r_iincG hd rfl hi (fun w hw => hn w (Option.some.inj hw)) k
theorem r_iload_5 {l0 l1 l2 l3 l4 : Option Value} {R : List (Option Value)} {x : Int32} (hd : pm_i E pc .iload_n .iload 5 q) (k : pm_V E q (l0 :: l1 :: l2 :: l3 :: l4 :: some (.int x) :: R) (.int x :: st) h b F) : pm_V E pc (l0 :: l1 :: l2 :: l3 :: l4 :: some (.int x) :: R) st h b F := r_iloadG hd rfl k
theorem r_lload_5 {l0 l1 l2 l3 l4 : Option Value} {R : List (Option Value)} {x : Int64} (hd : pm_i E pc .lload_n .lload 5 q) (k : pm_V E q (l0 :: l1 :: l2 :: l3 :: l4 :: some (.long x) :: R) (.long x :: st) h b F) : pm_V E pc (l0 :: l1 :: l2 :: l3 :: l4 :: some (.long x) :: R) st h b F := r_lloadG hd rfl k
theorem r_aload_5 {l0 l1 l2 l3 l4 : Option Value} {R : List (Option Value)} {x : Nat} (hd : pm_i E pc .aload_n .aload 5 q) (k : pm_V E q (l0 :: l1 :: l2 :: l3 :: l4 :: some (.ref x) :: R) (.ref x :: st) h b F) : pm_V E pc (l0 :: l1 :: l2 :: l3 :: l4 :: some (.ref x) :: R) st h b F := r_aloadG hd rfl k
theorem r_aloadN_5 {l0 l1 l2 l3 l4 : Option Value} {R : List (Option Value)} (hd : pm_i E pc .aload_n .aload 5 q) (k : pm_V E q (l0 :: l1 :: l2 :: l3 :: l4 :: some .null :: R) (.null :: st) h b F) : pm_V E pc (l0 :: l1 :: l2 :: l3 :: l4 :: some .null :: R) st h b F := r_aloadNG hd rfl k
theorem r_istore_5 {l0 l1 l2 l3 l4 : Option Value} {o : Option Value} {R : List (Option Value)} {x : Int32} (hd : pm_i E pc .istore_n .istore 5 q) (hi : 5 < pm_nL E) (hn : ∀ w, l4 = some w → w.category = 1) (k : pm_V E q (l0 :: l1 :: l2 :: l3 :: l4 :: some (.int x) :: R) st h b F) : pm_V E pc (l0 :: l1 :: l2 :: l3 :: l4 :: o :: R) (.int x :: st) h b F := r_istoreG hd hi (fun w hw => hn w (Option.some.inj hw)) k
theorem r_astore_5 {l0 l1 l2 l3 l4 : Option Value} {o : Option Value} {R : List (Option Value)} {x : Nat} (hd : pm_i E pc .astore_n .astore 5 q) (hi : 5 < pm_nL E) (hn : ∀ w, l4 = some w → w.category = 1) (k : pm_V E q (l0 :: l1 :: l2 :: l3 :: l4 :: some (.ref x) :: R) st h b F) : pm_V E pc (l0 :: l1 :: l2 :: l3 :: l4 :: o :: R) (.ref x :: st) h b F := r_astoreG hd hi (fun w hw => hn w (Option.some.inj hw)) k
theorem r_astoreN_5 {l0 l1 l2 l3 l4 : Option Value} {o : Option Value} {R : List (Option Value)} (hd : pm_i E pc .astore_n .astore 5 q) (hi : 5 < pm_nL E) (hn : ∀ w, l4 = some w → w.category = 1) (k : pm_V E q (l0 :: l1 :: l2 :: l3 :: l4 :: some (.null) :: R) st h b F) : pm_V E pc (l0 :: l1 :: l2 :: l3 :: l4 :: o :: R) (.null :: st) h b F := r_astoreNG hd hi (fun w hw => hn w (Option.some.inj hw)) k
theorem r_lstore_5 {l0 l1 l2 l3 l4 : Option Value} {o o2 : Option Value} {R : List (Option Value)} {x : Int64} (hd : pm_i E pc .lstore_n .lstore 5 q) (hi : 6 < pm_nL E) (hn : ∀ w, l4 = some w → w.category = 1) (k : pm_V E q (l0 :: l1 :: l2 :: l3 :: l4 :: some (.long x) :: none :: R) st h b F) : pm_V E pc (l0 :: l1 :: l2 :: l3 :: l4 :: o :: o2 :: R) (.long x :: st) h b F := r_lstoreG hd hi (fun w hw => hn w (Option.some.inj hw)) k
theorem r_iinc_5 {l0 l1 l2 l3 l4 : Option Value} {R : List (Option Value)} {x n : Int32} (hd : pm_I E pc 5 n q) (hi : 5 < pm_nL E) (hn : ∀ w, l4 = some w → w.category = 1) (k : pm_V E q (l0 :: l1 :: l2 :: l3 :: l4 :: some (.int (x + n)) :: R) st h b F) : pm_V E pc (l0 :: l1 :: l2 :: l3 :: l4 :: some (.int x) :: R) st h b F := r_iincG hd rfl hi (fun w hw => hn w (Option.some.inj hw)) k
theorem r_iload_6 {l0 l1 l2 l3 l4 l5 : Option Value} {R : List (Option Value)} {x : Int32} (hd : pm_i E pc .iload_n .iload 6 q) (k : pm_V E q (l0 :: l1 :: l2 :: l3 :: l4 :: l5 :: some (.int x) :: R) (.int x :: st) h b F) : pm_V E pc (l0 :: l1 :: l2 :: l3 :: l4 :: l5 :: some (.int x) :: R) st h b F := r_iloadG hd rfl k
theorem r_lload_6 {l0 l1 l2 l3 l4 l5 : Option Value} {R : List (Option Value)} {x : Int64} (hd : pm_i E pc .lload_n .lload 6 q) (k : pm_V E q (l0 :: l1 :: l2 :: l3 :: l4 :: l5 :: some (.long x) :: R) (.long x :: st) h b F) : pm_V E pc (l0 :: l1 :: l2 :: l3 :: l4 :: l5 :: some (.long x) :: R) st h b F := r_lloadG hd rfl k
theorem r_aload_6 {l0 l1 l2 l3 l4 l5 : Option Value} {R : List (Option Value)} {x : Nat} (hd : pm_i E pc .aload_n .aload 6 q) (k : pm_V E q (l0 :: l1 :: l2 :: l3 :: l4 :: l5 :: some (.ref x) :: R) (.ref x :: st) h b F) : pm_V E pc (l0 :: l1 :: l2 :: l3 :: l4 :: l5 :: some (.ref x) :: R) st h b F := r_aloadG hd rfl k
theorem r_aloadN_6 {l0 l1 l2 l3 l4 l5 : Option Value} {R : List (Option Value)} (hd : pm_i E pc .aload_n .aload 6 q) (k : pm_V E q (l0 :: l1 :: l2 :: l3 :: l4 :: l5 :: some .null :: R) (.null :: st) h b F) : pm_V E pc (l0 :: l1 :: l2 :: l3 :: l4 :: l5 :: some .null :: R) st h b F := r_aloadNG hd rfl k
theorem r_istore_6 {l0 l1 l2 l3 l4 l5 : Option Value} {o : Option Value} {R : List (Option Value)} {x : Int32} (hd : pm_i E pc .istore_n .istore 6 q) (hi : 6 < pm_nL E) (hn : ∀ w, l5 = some w → w.category = 1) (k : pm_V E q (l0 :: l1 :: l2 :: l3 :: l4 :: l5 :: some (.int x) :: R) st h b F) : pm_V E pc (l0 :: l1 :: l2 :: l3 :: l4 :: l5 :: o :: R) (.int x :: st) h b F := r_istoreG hd hi (fun w hw => hn w (Option.some.inj hw)) k
theorem r_astore_6 {l0 l1 l2 l3 l4 l5 : Option Value} {o : Option Value} {R : List (Option Value)} {x : Nat} (hd : pm_i E pc .astore_n .astore 6 q) (hi : 6 < pm_nL E) (hn : ∀ w, l5 = some w → w.category = 1) (k : pm_V E q (l0 :: l1 :: l2 :: l3 :: l4 :: l5 :: some (.ref x) :: R) st h b F) : pm_V E pc (l0 :: l1 :: l2 :: l3 :: l4 :: l5 :: o :: R) (.ref x :: st) h b F := r_astoreG hd hi (fun w hw => hn w (Option.some.inj hw)) k
theorem r_astoreN_6 {l0 l1 l2 l3 l4 l5 : Option Value} {o : Option Value} {R : List (Option Value)} (hd : pm_i E pc .astore_n .astore 6 q) (hi : 6 < pm_nL E) (hn : ∀ w, l5 = some w → w.category = 1) (k : pm_V E q (l0 :: l1 :: l2 :: l3 :: l4 :: l5 :: some (.null) :: R) st h b F) : pm_V E pc (l0 :: l1 :: l2 :: l3 :: l4 :: l5 :: o :: R) (.null :: st) h b F := r_astoreNG hd hi (fun w hw => hn w (Option.some.inj hw)) k
theorem r_lstore_6 {l0 l1 l2 l3 l4 l5 : Option Value} {o o2 : Option Value} {R : List (Option Value)} {x : Int64} (hd : pm_i E pc .lstore_n .lstore 6 q) (hi : 7 < pm_nL E) (hn : ∀ w, l5 = some w → w.category = 1) (k : pm_V E q (l0 :: l1 :: l2 :: l3 :: l4 :: l5 :: some (.long x) :: none :: R) st h b F) : pm_V E pc (l0 :: l1 :: l2 :: l3 :: l4 :: l5 :: o :: o2 :: R) (.long x :: st) h b F := r_lstoreG hd hi (fun w hw => hn w (Option.some.inj hw)) k
theorem r_iinc_6 {l0 l1 l2 l3 l4 l5 : Option Value} {R : List (Option Value)} {x n : Int32} (hd : pm_I E pc 6 n q) (hi : 6 < pm_nL E) (hn : ∀ w, l5 = some w → w.category = 1) (k : pm_V E q (l0 :: l1 :: l2 :: l3 :: l4 :: l5 :: some (.int (x + n)) :: R) st h b F) : pm_V E pc (l0 :: l1 :: l2 :: l3 :: l4 :: l5 :: some (.int x) :: R) st h b F := r_iincG hd rfl hi (fun w hw => hn w (Option.some.inj hw)) k
theorem r_iload_7 {l0 l1 l2 l3 l4 l5 l6 : Option Value} {R : List (Option Value)} {x : Int32} (hd : pm_i E pc .iload_n .iload 7 q) (k : pm_V E q (l0 :: l1 :: l2 :: l3 :: l4 :: l5 :: l6 :: some (.int x) :: R) (.int x :: st) h b F) : pm_V E pc (l0 :: l1 :: l2 :: l3 :: l4 :: l5 :: l6 :: some (.int x) :: R) st h b F := r_iloadG hd rfl k
theorem r_lload_7 {l0 l1 l2 l3 l4 l5 l6 : Option Value} {R : List (Option Value)} {x : Int64} (hd : pm_i E pc .lload_n .lload 7 q) (k : pm_V E q (l0 :: l1 :: l2 :: l3 :: l4 :: l5 :: l6 :: some (.long x) :: R) (.long x :: st) h b F) : pm_V E pc (l0 :: l1 :: l2 :: l3 :: l4 :: l5 :: l6 :: some (.long x) :: R) st h b F := r_lloadG hd rfl k
theorem r_aload_7 {l0 l1 l2 l3 l4 l5 l6 : Option Value} {R : List (Option Value)} {x : Nat} (hd : pm_i E pc .aload_n .aload 7 q) (k : pm_V E q (l0 :: l1 :: l2 :: l3 :: l4 :: l5 :: l6 :: some (.ref x) :: R) (.ref x :: st) h b F) : pm_V E pc (l0 :: l1 :: l2 :: l3 :: l4 :: l5 :: l6 :: some (.ref x) :: R) st h b F := r_aloadG hd rfl k
theorem r_aloadN_7 {l0 l1 l2 l3 l4 l5 l6 : Option Value} {R : List (Option Value)} (hd : pm_i E pc .aload_n .aload 7 q) (k : pm_V E q (l0 :: l1 :: l2 :: l3 :: l4 :: l5 :: l6 :: some .null :: R) (.null :: st) h b F) : pm_V E pc (l0 :: l1 :: l2 :: l3 :: l4 :: l5 :: l6 :: some .null :: R) st h b F := r_aloadNG hd rfl k
theorem r_istore_7 {l0 l1 l2 l3 l4 l5 l6 : Option Value} {o : Option Value} {R : List (Option Value)} {x : Int32} (hd : pm_i E pc .istore_n .istore 7 q) (hi : 7 < pm_nL E) (hn : ∀ w, l6 = some w → w.category = 1) (k : pm_V E q (l0 :: l1 :: l2 :: l3 :: l4 :: l5 :: l6 :: some (.int x) :: R) st h b F) : pm_V E pc (l0 :: l1 :: l2 :: l3 :: l4 :: l5 :: l6 :: o :: R) (.int x :: st) h b F := r_istoreG hd hi (fun w hw => hn w (Option.some.inj hw)) k
theorem r_astore_7 {l0 l1 l2 l3 l4 l5 l6 : Option Value} {o : Option Value} {R : List (Option Value)} {x : Nat} (hd : pm_i E pc .astore_n .astore 7 q) (hi : 7 < pm_nL E) (hn : ∀ w, l6 = some w → w.category = 1) (k : pm_V E q (l0 :: l1 :: l2 :: l3 :: l4 :: l5 :: l6 :: some (.ref x) :: R) st h b F) : pm_V E pc (l0 :: l1 :: l2 :: l3 :: l4 :: l5 :: l6 :: o :: R) (.ref x :: st) h b F := r_astoreG hd hi (fun w hw => hn w (Option.some.inj hw)) k
theorem r_astoreN_7 {l0 l1 l2 l3 l4 l5 l6 : Option Value} {o : Option Value} {R : List (Option Value)} (hd : pm_i E pc .astore_n .astore 7 q) (hi : 7 < pm_nL E) (hn : ∀ w, l6 = some w → w.category = 1) (k : pm_V E q (l0 :: l1 :: l2 :: l3 :: l4 :: l5 :: l6 :: some (.null) :: R) st h b F) : pm_V E pc (l0 :: l1 :: l2 :: l3 :: l4 :: l5 :: l6 :: o :: R) (.null :: st) h b F := r_astoreNG hd hi (fun w hw => hn w (Option.some.inj hw)) k
theorem r_lstore_7 {l0 l1 l2 l3 l4 l5 l6 : Option Value} {o o2 : Option Value} {R : List (Option Value)} {x : Int64} (hd : pm_i E pc .lstore_n .lstore 7 q) (hi : 8 < pm_nL E) (hn : ∀ w, l6 = some w → w.category = 1) (k : pm_V E q (l0 :: l1 :: l2 :: l3 :: l4 :: l5 :: l6 :: some (.long x) :: none :: R) st h b F) : pm_V E pc (l0 :: l1 :: l2 :: l3 :: l4 :: l5 :: l6 :: o :: o2 :: R) (.long x :: st) h b F := r_lstoreG hd hi (fun w hw => hn w (Option.some.inj hw)) k
theorem r_iinc_7 {l0 l1 l2 l3 l4 l5 l6 : Option Value} {R : List (Option Value)} {x n : Int32} (hd : pm_I E pc 7 n q) (hi : 7 < pm_nL E) (hn : ∀ w, l6 = some w → w.category = 1) (k : pm_V E q (l0 :: l1 :: l2 :: l3 :: l4 :: l5 :: l6 :: some (.int (x + n)) :: R) st h b F) : pm_V E pc (l0 :: l1 :: l2 :: l3 :: l4 :: l5 :: l6 :: some (.int x) :: R) st h b F := r_iincG hd rfl hi (fun w hw => hn w (Option.some.inj hw)) k
theorem r_iload_8 {l0 l1 l2 l3 l4 l5 l6 l7 : Option Value} {R : List (Option Value)} {x : Int32} (hd : pm_i E pc .iload_n .iload 8 q) (k : pm_V E q (l0 :: l1 :: l2 :: l3 :: l4 :: l5 :: l6 :: l7 :: some (.int x) :: R) (.int x :: st) h b F) : pm_V E pc (l0 :: l1 :: l2 :: l3 :: l4 :: l5 :: l6 :: l7 :: some (.int x) :: R) st h b F := r_iloadG hd rfl k
theorem r_lload_8 {l0 l1 l2 l3 l4 l5 l6 l7 : Option Value} {R : List (Option Value)} {x : Int64} (hd : pm_i E pc .lload_n .lload 8 q) (k : pm_V E q (l0 :: l1 :: l2 :: l3 :: l4 :: l5 :: l6 :: l7 :: some (.long x) :: R) (.long x :: st) h b F) : pm_V E pc (l0 :: l1 :: l2 :: l3 :: l4 :: l5 :: l6 :: l7 :: some (.long x) :: R) st h b F := r_lloadG hd rfl k
theorem r_aload_8 {l0 l1 l2 l3 l4 l5 l6 l7 : Option Value} {R : List (Option Value)} {x : Nat} (hd : pm_i E pc .aload_n .aload 8 q) (k : pm_V E q (l0 :: l1 :: l2 :: l3 :: l4 :: l5 :: l6 :: l7 :: some (.ref x) :: R) (.ref x :: st) h b F) : pm_V E pc (l0 :: l1 :: l2 :: l3 :: l4 :: l5 :: l6 :: l7 :: some (.ref x) :: R) st h b F := r_aloadG hd rfl k
theorem r_aloadN_8 {l0 l1 l2 l3 l4 l5 l6 l7 : Option Value} {R : List (Option Value)} (hd : pm_i E pc .aload_n .aload 8 q) (k : pm_V E q (l0 :: l1 :: l2 :: l3 :: l4 :: l5 :: l6 :: l7 :: some .null :: R) (.null :: st) h b F) : pm_V E pc (l0 :: l1 :: l2 :: l3 :: l4 :: l5 :: l6 :: l7 :: some .null :: R) st h b F := r_aloadNG hd rfl k
theorem r_istore_8 {l0 l1 l2 l3 l4 l5 l6 l7 : Option Value} {o : Option Value} {R : List (Option Value)} {x : Int32} (hd : pm_i E pc .istore_n .istore 8 q) (hi : 8 < pm_nL E) (hn : ∀ w, l7 = some w → w.category = 1) (k : pm_V E q (l0 :: l1 :: l2 :: l3 :: l4 :: l5 :: l6 :: l7 :: some (.int x) :: R) st h b F) : pm_V E pc (l0 :: l1 :: l2 :: l3 :: l4 :: l5 :: l6 :: l7 :: o :: R) (.int x :: st) h b F := r_istoreG hd hi (fun w hw => hn w (Option.some.inj hw)) k
theorem r_astore_8 {l0 l1 l2 l3 l4 l5 l6 l7 : Option Value} {o : Option Value} {R : List (Option Value)} {x : Nat} (hd : pm_i E pc .astore_n .astore 8 q) (hi : 8 < pm_nL E) (hn : ∀ w, l7 = some w → w.category = 1) (k : pm_V E q (l0 :: l1 :: l2 :: l3 :: l4 :: l5 :: l6 :: l7 :: some (.ref x) :: R) st h b F) : pm_V E pc (l0 :: l1 :: l2 :: l3 :: l4 :: l5 :: l6 :: l7 :: o :: R) (.ref x :: st) h b F := r_astoreG hd hi (fun w hw => hn w (Option.some.inj hw)) k
theorem r_astoreN_8 {l0 l1 l2 l3 l4 l5 l6 l7 : Option Value} {o : Option Value} {R : List (Option Value)} (hd : pm_i E pc .astore_n .astore 8 q) (hi : 8 < pm_nL E) (hn : ∀ w, l7 = some w → w.category = 1) (k : pm_V E q (l0 :: l1 :: l2 :: l3 :: l4 :: l5 :: l6 :: l7 :: some (.null) :: R) st h b F) : pm_V E pc (l0 :: l1 :: l2 :: l3 :: l4 :: l5 :: l6 :: l7 :: o :: R) (.null :: st) h b F := r_astoreNG hd hi (fun w hw => hn w (Option.some.inj hw)) k
theorem r_lstore_8 {l0 l1 l2 l3 l4 l5 l6 l7 : Option Value} {o o2 : Option Value} {R : List (Option Value)} {x : Int64} (hd : pm_i E pc .lstore_n .lstore 8 q) (hi : 9 < pm_nL E) (hn : ∀ w, l7 = some w → w.category = 1) (k : pm_V E q (l0 :: l1 :: l2 :: l3 :: l4 :: l5 :: l6 :: l7 :: some (.long x) :: none :: R) st h b F) : pm_V E pc (l0 :: l1 :: l2 :: l3 :: l4 :: l5 :: l6 :: l7 :: o :: o2 :: R) (.long x :: st) h b F := r_lstoreG hd hi (fun w hw => hn w (Option.some.inj hw)) k
theorem r_iinc_8 {l0 l1 l2 l3 l4 l5 l6 l7 : Option Value} {R : List (Option Value)} {x n : Int32} (hd : pm_I E pc 8 n q) (hi : 8 < pm_nL E) (hn : ∀ w, l7 = some w → w.category = 1) (k : pm_V E q (l0 :: l1 :: l2 :: l3 :: l4 :: l5 :: l6 :: l7 :: some (.int (x + n)) :: R) st h b F) : pm_V E pc (l0 :: l1 :: l2 :: l3 :: l4 :: l5 :: l6 :: l7 :: some (.int x) :: R) st h b F := r_iincG hd rfl hi (fun w hw => hn w (Option.some.inj hw)) k
theorem r_iload_9 {l0 l1 l2 l3 l4 l5 l6 l7 l8 : Option Value} {R : List (Option Value)} {x : Int32} (hd : pm_i E pc .iload_n .iload 9 q) (k : pm_V E q (l0 :: l1 :: l2 :: l3 :: l4 :: l5 :: l6 :: l7 :: l8 :: some (.int x) :: R) (.int x :: st) h b F) : pm_V E pc (l0 :: l1 :: l2 :: l3 :: l4 :: l5 :: l6 :: l7 :: l8 :: some (.int x) :: R) st h b F := r_iloadG hd rfl k
theorem r_lload_9 {l0 l1 l2 l3 l4 l5 l6 l7 l8 : Option Value} {R : List (Option Value)} {x : Int64} (hd : pm_i E pc .lload_n .lload 9 q) (k : pm_V E q (l0 :: l1 :: l2 :: l3 :: l4 :: l5 :: l6 :: l7 :: l8 :: some (.long x) :: R) (.long x :: st) h b F) : pm_V E pc (l0 :: l1 :: l2 :: l3 :: l4 :: l5 :: l6 :: l7 :: l8 :: some (.long x) :: R) st h b F := r_lloadG hd rfl k
theorem r_aload_9 {l0 l1 l2 l3 l4 l5 l6 l7 l8 : Option Value} {R : List (Option Value)} {x : Nat} (hd : pm_i E pc .aload_n .aload 9 q) (k : pm_V E q (l0 :: l1 :: l2 :: l3 :: l4 :: l5 :: l6 :: l7 :: l8 :: some (.ref x) :: R) (.ref x :: st) h b F) : pm_V E pc (l0 :: l1 :: l2 :: l3 :: l4 :: l5 :: l6 :: l7 :: l8 :: some (.ref x) :: R) st h b F := r_aloadG hd rfl k
theorem r_aloadN_9 {l0 l1 l2 l3 l4 l5 l6 l7 l8 : Option Value} {R : List (Option Value)} (hd : pm_i E pc .aload_n .aload 9 q) (k : pm_V E q (l0 :: l1 :: l2 :: l3 :: l4 :: l5 :: l6 :: l7 :: l8 :: some .null :: R) (.null :: st) h b F) : pm_V E pc (l0 :: l1 :: l2 :: l3 :: l4 :: l5 :: l6 :: l7 :: l8 :: some .null :: R) st h b F := r_aloadNG hd rfl k
theorem r_istore_9 {l0 l1 l2 l3 l4 l5 l6 l7 l8 : Option Value} {o : Option Value} {R : List (Option Value)} {x : Int32} (hd : pm_i E pc .istore_n .istore 9 q) (hi : 9 < pm_nL E) (hn : ∀ w, l8 = some w → w.category = 1) (k : pm_V E q (l0 :: l1 :: l2 :: l3 :: l4 :: l5 :: l6 :: l7 :: l8 :: some (.int x) :: R) st h b F) : pm_V E pc (l0 :: l1 :: l2 :: l3 :: l4 :: l5 :: l6 :: l7 :: l8 :: o :: R) (.int x :: st) h b F := r_istoreG hd hi (fun w hw => hn w (Option.some.inj hw)) k
theorem r_astore_9 {l0 l1 l2 l3 l4 l5 l6 l7 l8 : Option Value} {o : Option Value} {R : List (Option Value)} {x : Nat} (hd : pm_i E pc .astore_n .astore 9 q) (hi : 9 < pm_nL E) (hn : ∀ w, l8 = some w → w.category = 1) (k : pm_V E q (l0 :: l1 :: l2 :: l3 :: l4 :: l5 :: l6 :: l7 :: l8 :: some (.ref x) :: R) st h b F) : pm_V E pc (l0 :: l1 :: l2 :: l3 :: l4 :: l5 :: l6 :: l7 :: l8 :: o :: R) (.ref x :: st) h b F := r_astoreG hd hi (fun w hw => hn w (Option.some.inj hw)) k
theorem r_astoreN_9 {l0 l1 l2 l3 l4 l5 l6 l7 l8 : Option Value} {o : Option Value} {R : List (Option Value)} (hd : pm_i E pc .astore_n .astore 9 q) (hi : 9 < pm_nL E) (hn : ∀ w, l8 = some w → w.category = 1) (k : pm_V E q (l0 :: l1 :: l2 :: l3 :: l4 :: l5 :: l6 :: l7 :: l8 :: some (.null) :: R) st h b F) : pm_V E pc (l0 :: l1 :: l2 :: l3 :: l4 :: l5 :: l6 :: l7 :: l8 :: o :: R) (.null :: st) h b F := r_astoreNG hd hi (fun w hw => hn w (Option.some.inj hw)) k
theorem r_lstore_9 {l0 l1 l2 l3 l4 l5 l6 l7 l8 : Option Value} {o o2 : Option Value} {R : List (Option Value)} {x : Int64} (hd : pm_i E pc .lstore_n .lstore 9 q) (hi : 10 < pm_nL E) (hn : ∀ w, l8 = some w → w.category = 1) (k : pm_V E q (l0 :: l1 :: l2 :: l3 :: l4 :: l5 :: l6 :: l7 :: l8 :: some (.long x) :: none :: R) st h b F) : pm_V E pc (l0 :: l1 :: l2 :: l3 :: l4 :: l5 :: l6 :: l7 :: l8 :: o :: o2 :: R) (.long x :: st) h b F := r_lstoreG hd hi (fun w hw => hn w (Option.some.inj hw)) k
theorem r_iinc_9 {l0 l1 l2 l3 l4 l5 l6 l7 l8 : Option Value} {R : List (Option Value)} {x n : Int32} (hd : pm_I E pc 9 n q) (hi : 9 < pm_nL E) (hn : ∀ w, l8 = some w → w.category = 1) (k : pm_V E q (l0 :: l1 :: l2 :: l3 :: l4 :: l5 :: l6 :: l7 :: l8 :: some (.int (x + n)) :: R) st h b F) : pm_V E pc (l0 :: l1 :: l2 :: l3 :: l4 :: l5 :: l6 :: l7 :: l8 :: some (.int x) :: R) st h b F := r_iincG hd rfl hi (fun w hw => hn w (Option.some.inj hw)) k
theorem r_iload_10 {l0 l1 l2 l3 l4 l5 l6 l7 l8 l9 : Option Value} {R : List (Option Value)} {x : Int32} (hd : pm_i E pc .iload_n .iload 10 q) (k : pm_V E q (l0 :: l1 :: l2 :: l3 :: l4 :: l5 :: l6 :: l7 :: l8 :: l9 :: some (.int x) :: R) (.int x :: st) h b F) : pm_V E pc (l0 :: l1 :: l2 :: l3 :: l4 :: l5 :: l6 :: l7 :: l8 :: l9 :: some (.int x) :: R) st h b F := r_iloadG hd rfl k
theorem r_lload_10 {l0 l1 l2 l3 l4 l5 l6 l7 l8 l9 : Option Value} {R : List (Option Value)} {x : Int64} (hd : pm_i E pc .lload_n .lload 10 q) (k : pm_V E q (l0 :: l1 :: l2 :: l3 :: l4 :: l5 :: l6 :: l7 :: l8 :: l9 :: some (.long x) :: R) (.long x :: st) h b F) : pm_V E pc (l0 :: l1 :: l2 :: l3 :: l4 :: l5 :: l6 :: l7 :: l8 :: l9 :: some (.long x) :: R) st h b F := r_lloadG hd rfl k
theorem r_aload_10 {l0 l1 l2 l3 l4 l5 l6 l7 l8 l9 : Option Value} {R : List (Option Value)} {x : Nat} (hd : pm_i E pc .aload_n .aload 10 q) (k : pm_V E q (l0 :: l1 :: l2 :: l3 :: l4 :: l5 :: l6 :: l7 :: l8 :: l9 :: some (.ref x) :: R) (.ref x :: st) h b F) : pm_V E pc (l0 :: l1 :: l2 :: l3 :: l4 :: l5 :: l6 :: l7 :: l8 :: l9 :: some (.ref x) :: R) st h b F := r_aloadG hd rfl k
theorem r_aloadN_10 {l0 l1 l2 l3 l4 l5 l6 l7 l8 l9 : Option Value} {R : List (Option Value)} (hd : pm_i E pc .aload_n .aload 10 q) (k : pm_V E q (l0 :: l1 :: l2 :: l3 :: l4 :: l5 :: l6 :: l7 :: l8 :: l9 :: some .null :: R) (.null :: st) h b F) : pm_V E pc (l0 :: l1 :: l2 :: l3 :: l4 :: l5 :: l6 :: l7 :: l8 :: l9 :: some .null :: R) st h b F := r_aloadNG hd rfl k
theorem r_istore_10 {l0 l1 l2 l3 l4 l5 l6 l7 l8 l9 : Option Value} {o : Option Value} {R : List (Option Value)} {x : Int32} (hd : pm_i E pc .istore_n .istore 10 q) (hi : 10 < pm_nL E) (hn : ∀ w, l9 = some w → w.category = 1) (k : pm_V E q (l0 :: l1 :: l2 :: l3 :: l4 :: l5 :: l6 :: l7 :: l8 :: l9 :: some (.int x) :: R) st h b F) : pm_V E pc (l0 :: l1 :: l2 :: l3 :: l4 :: l5 :: l6 :: l7 :: l8 :: l9 :: o :: R) (.int x :: st) h b F := r_istoreG hd hi (fun w hw => hn w (Option.some.inj hw)) k
theorem r_astore_10 {l0 l1 l2 l3 l4 l5 l6 l7 l8 l9 : Option Value} {o : Option Value} {R : List (Option Value)} {x : Nat} (hd : pm_i E pc .astore_n .astore 10 q) (hi : 10 < pm_nL E) (hn : ∀ w, l9 = some w → w.category = 1) (k : pm_V E q (l0 :: l1 :: l2 :: l3 :: l4 :: l5 :: l6 :: l7 :: l8 :: l9 :: some (.ref x) :: R) st h b F) : pm_V E pc (l0 :: l1 :: l2 :: l3 :: l4 :: l5 :: l6 :: l7 :: l8 :: l9 :: o :: R) (.ref x :: st) h b F := r_astoreG hd hi (fun w hw => hn w (Option.some.inj hw)) k
theorem r_astoreN_10 {l0 l1 l2 l3 l4 l5 l6 l7 l8 l9 : Option Value} {o : Option Value} {R : List (Option Value)} (hd : pm_i E pc .astore_n .astore 10 q) (hi : 10 < pm_nL E) (hn : ∀ w, l9 = some w → w.category = 1) (k : pm_V E q (l0 :: l1 :: l2 :: l3 :: l4 :: l5 :: l6 :: l7 :: l8 :: l9 :: some (.null) :: R) st h b F) : pm_V E pc (l0 :: l1 :: l2 :: l3 :: l4 :: l5 :: l6 :: l7 :: l8 :: l9 :: o :: R) (.null :: st) h b F := r_astoreNG hd hi (fun w hw => hn w (Option.some.inj hw)) k
theorem r_lstore_10 {l0 l1 l2 l3 l4 l5 l6 l7 l8 l9 : Option Value} {o o2 : Option Value} {R : List (Option Value)} {x : Int64} (hd : pm_i E pc .lstore_n .lstore 10 q) (hi : 11 < pm_nL E) (hn : ∀ w, l9 = some w → w.category = 1) (k : pm_V E q (l0 :: l1 :: l2 :: l3 :: l4 :: l5 :: l6 :: l7 :: l8 :: l9 :: some (.long x) :: none :: R) st h b F) : pm_V E pc (l0 :: l1 :: l2 :: l3 :: l4 :: l5 :: l6 :: l7 :: l8 :: l9 :: o :: o2 :: R) (.long x :: st) h b F := r_lstoreG hd hi (fun w hw => hn w (Option.some.inj hw)) k
theorem r_iinc_10 {l0 l1 l2 l3 l4 l5 l6 l7 l8 l9 : Option Value} {R : List (Option Value)} {x n : Int32} (hd : pm_I E pc 10 n q) (hi : 10 < pm_nL E) (hn : ∀ w, l9 = some w → w.category = 1) (k : pm_V E q (l0 :: l1 :: l2 :: l3 :: l4 :: l5 :: l6 :: l7 :: l8 :: l9 :: some (.int (x + n)) :: R) st h b F) : pm_V E pc (l0 :: l1 :: l2 :: l3 :: l4 :: l5 :: l6 :: l7 :: l8 :: l9 :: some (.int x) :: R) st h b F := r_iincG hd rfl hi (fun w hw => hn w (Option.some.inj hw)) k
theorem r_iload_11 {l0 l1 l2 l3 l4 l5 l6 l7 l8 l9 l10 : Option Value} {R : List (Option Value)} {x : Int32} (hd : pm_i E pc .iload_n .iload 11 q) (k : pm_V E q (l0 :: l1 :: l2 :: l3 :: l4 :: l5 :: l6 :: l7 :: l8 :: l9 :: l10 :: some (.int x) :: R) (.int x :: st) h b F) : pm_V E pc (l0 :: l1 :: l2 :: l3 :: l4 :: l5 :: l6 :: l7 :: l8 :: l9 :: l10 :: some (.int x) :: R) st h b F := r_iloadG hd rfl k
theorem r_lload_11 {l0 l1 l2 l3 l4 l5 l6 l7 l8 l9 l10 : Option Value} {R : List (Option Value)} {x : Int64} (hd : pm_i E pc .lload_n .lload 11 q) (k : pm_V E q (l0 :: l1 :: l2 :: l3 :: l4 :: l5 :: l6 :: l7 :: l8 :: l9 :: l10 :: some (.long x) :: R) (.long x :: st) h b F) : pm_V E pc (l0 :: l1 :: l2 :: l3 :: l4 :: l5 :: l6 :: l7 :: l8 :: l9 :: l10 :: some (.long x) :: R) st h b F := r_lloadG hd rfl k
theorem r_aload_11 {l0 l1 l2 l3 l4 l5 l6 l7 l8 l9 l10 : Option Value} {R : List (Option Value)} {x : Nat} (hd : pm_i E pc .aload_n .aload 11 q) (k : pm_V E q (l0 :: l1 :: l2 :: l3 :: l4 :: l5 :: l6 :: l7 :: l8 :: l9 :: l10 :: some (.ref x) :: R) (.ref x :: st) h b F) : pm_V E pc (l0 :: l1 :: l2 :: l3 :: l4 :: l5 :: l6 :: l7 :: l8 :: l9 :: l10 :: some (.ref x) :: R) st h b F := r_aloadG hd rfl k
theorem r_aloadN_11 {l0 l1 l2 l3 l4 l5 l6 l7 l8 l9 l10 : Option Value} {R : List (Option Value)} (hd : pm_i E pc .aload_n .aload 11 q) (k : pm_V E q (l0 :: l1 :: l2 :: l3 :: l4 :: l5 :: l6 :: l7 :: l8 :: l9 :: l10 :: some .null :: R) (.null :: st) h b F) : pm_V E pc (l0 :: l1 :: l2 :: l3 :: l4 :: l5 :: l6 :: l7 :: l8 :: l9 :: l10 :: some .null :: R) st h b F := r_aloadNG hd rfl k
theorem r_istore_11 {l0 l1 l2 l3 l4 l5 l6 l7 l8 l9 l10 : Option Value} {o : Option Value} {R : List (Option Value)} {x : Int32} (hd : pm_i E pc .istore_n .istore 11 q) (hi : 11 < pm_nL E) (hn : ∀ w, l10 = some w → w.category = 1) (k : pm_V E q (l0 :: l1 :: l2 :: l3 :: l4 :: l5 :: l6 :: l7 :: l8 :: l9 :: l10 :: some (.int x) :: R) st h b F) : pm_V E pc (l0 :: l1 :: l2 :: l3 :: l4 :: l5 :: l6 :: l7 :: l8 :: l9 :: l10 :: o :: R) (.int x :: st) h b F := r_istoreG hd hi (fun w hw => hn w (Option.some.inj hw)) k
theorem r_astore_11 {l0 l1 l2 l3 l4 l5 l6 l7 l8 l9 l10 : Option Value} {o : Option Value} {R : List (Option Value)} {x : Nat} (hd : pm_i E pc .astore_n .astore 11 q) (hi : 11 < pm_nL E) (hn : ∀ w, l10 = some w → w.category = 1) (k : pm_V E q (l0 :: l1 :: l2 :: l3 :: l4 :: l5 :: l6 :: l7 :: l8 :: l9 :: l10 :: some (.ref x) :: R) st h b F) : pm_V E pc (l0 :: l1 :: l2 :: l3 :: l4 :: l5 :: l6 :: l7 :: l8 :: l9 :: l10 :: o :: R) (.ref x :: st) h b F := r_astoreG hd hi (fun w hw => hn w (Option.some.inj hw)) k
theorem r_astoreN_11 {l0 l1 l2 l3 l4 l5 l6 l7 l8 l9 l10 : Option Value} {o : Option Value} {R : List (Option Value)} (hd : pm_i E pc .astore_n .astore 11 q) (hi : 11 < pm_nL E) (hn : ∀ w, l10 = some w → w.category = 1) (k : pm_V E q (l0 :: l1 :: l2 :: l3 :: l4 :: l5 :: l6 :: l7 :: l8 :: l9 :: l10 :: some (.null) :: R) st h b F) : pm_V E pc (l0 :: l1 :: l2 :: l3 :: l4 :: l5 :: l6 :: l7 :: l8 :: l9 :: l10 :: o :: R) (.null :: st) h b F := r_astoreNG hd hi (fun w hw => hn w (Option.some.inj hw)) k
theorem r_lstore_11 {l0 l1 l2 l3 l4 l5 l6 l7 l8 l9 l10 : Option Value} {o o2 : Option Value} {R : List (Option Value)} {x : Int64} (hd : pm_i E pc .lstore_n .lstore 11 q) (hi : 12 < pm_nL E) (hn : ∀ w, l10 = some w → w.category = 1) (k : pm_V E q (l0 :: l1 :: l2 :: l3 :: l4 :: l5 :: l6 :: l7 :: l8 :: l9 :: l10 :: some (.long x) :: none :: R) st h b F) : pm_V E pc (l0 :: l1 :: l2 :: l3 :: l4 :: l5 :: l6 :: l7 :: l8 :: l9 :: l10 :: o :: o2 :: R) (.long x :: st) h b F := r_lstoreG hd hi (fun w hw => hn w (Option.some.inj hw)) k
theorem r_iinc_11 {l0 l1 l2 l3 l4 l5 l6 l7 l8 l9 l10 : Option Value} {R : List (Option Value)} {x n : Int32} (hd : pm_I E pc 11 n q) (hi : 11 < pm_nL E) (hn : ∀ w, l10 = some w → w.category = 1) (k : pm_V E q (l0 :: l1 :: l2 :: l3 :: l4 :: l5 :: l6 :: l7 :: l8 :: l9 :: l10 :: some (.int (x + n)) :: R) st h b F) : pm_V E pc (l0 :: l1 :: l2 :: l3 :: l4 :: l5 :: l6 :: l7 :: l8 :: l9 :: l10 :: some (.int x) :: R) st h b F := r_iincG hd rfl hi (fun w hw => hn w (Option.some.inj hw)) k
theorem r_iload_12 {l0 l1 l2 l3 l4 l5 l6 l7 l8 l9 l10 l11 : Option Value} {R : List (Option Value)} {x : Int32} (hd : pm_i E pc .iload_n .iload 12 q) (k : pm_V E q (l0 :: l1 :: l2 :: l3 :: l4 :: l5 :: l6 :: l7 :: l8 :: l9 :: l10 :: l11 :: some (.int x) :: R) (.int x :: st) h b F) : pm_V E pc (l0 :: l1 :: l2 :: l3 :: l4 :: l5 :: l6 :: l7 :: l8 :: l9 :: l10 :: l11 :: some (.int x) :: R) st h b F := r_iloadG hd rfl k
theorem r_lload_12 {l0 l1 l2 l3 l4 l5 l6 l7 l8 l9 l10 l11 : Option Value} {R : List (Option Value)} {x : Int64} (hd : pm_i E pc .lload_n .lload 12 q) (k : pm_V E q (l0 :: l1 :: l2 :: l3 :: l4 :: l5 :: l6 :: l7 :: l8 :: l9 :: l10 :: l11 :: some (.long x) :: R) (.long x :: st) h b F) : pm_V E pc (l0 :: l1 :: l2 :: l3 :: l4 :: l5 :: l6 :: l7 :: l8 :: l9 :: l10 :: l11 :: some (.long x) :: R) st h b F := r_lloadG hd rfl k
theorem r_aload_12 {l0 l1 l2 l3 l4 l5 l6 l7 l8 l9 l10 l11 : Option Value} {R : List (Option Value)} {x : Nat} (hd : pm_i E pc .aload_n .aload 12 q) (k : pm_V E q (l0 :: l1 :: l2 :: l3 :: l4 :: l5 :: l6 :: l7 :: l8 :: l9 :: l10 :: l11 :: some (.ref x) :: R) (.ref x :: st) h b F) : pm_V E pc (l0 :: l1 :: l2 :: l3 :: l4 :: l5 :: l6 :: l7 :: l8 :: l9 :: l10 :: l11 :: some (.ref x) :: R) st h b F := r_aloadG hd rfl k
theorem r_aloadN_12 {l0 l1 l2 l3 l4 l5 l6 l7 l8 l9 l10 l11 : Option Value} {R : List (Option Value)} (hd : pm_i E pc .aload_n .aload 12 q) (k : pm_V E q (l0 :: l1 :: l2 :: l3 :: l4 :: l5 :: l6 :: l7 :: l8 :: l9 :: l10 :: l11 :: some .null :: R) (.null :: st) h b F) : pm_V E pc (l0 :: l1 :: l2 :: l3 :: l4 :: l5 :: l6 :: l7 :: l8 :: l9 :: l10 :: l11 :: some .null :: R) st h b F := r_aloadNG hd rfl k
theorem r_istore_12 {l0 l1 l2 l3 l4 l5 l6 l7 l8 l9 l10 l11 : Option Value} {o : Option Value} {R : List (Option Value)} {x : Int32} (hd : pm_i E pc .istore_n .istore 12 q) (hi : 12 < pm_nL E) (hn : ∀ w, l11 = some w → w.category = 1) (k : pm_V E q (l0 :: l1 :: l2 :: l3 :: l4 :: l5 :: l6 :: l7 :: l8 :: l9 :: l10 :: l11 :: some (.int x) :: R) st h b F) : pm_V E pc (l0 :: l1 :: l2 :: l3 :: l4 :: l5 :: l6 :: l7 :: l8 :: l9 :: l10 :: l11 :: o :: R) (.int x :: st) h b F := r_istoreG hd hi (fun w hw => hn w (Option.some.inj hw)) k
theorem r_astore_12 {l0 l1 l2 l3 l4 l5 l6 l7 l8 l9 l10 l11 : Option Value} {o : Option Value} {R : List (Option Value)} {x : Nat} (hd : pm_i E pc .astore_n .astore 12 q) (hi : 12 < pm_nL E) (hn : ∀ w, l11 = some w → w.category = 1) (k : pm_V E q (l0 :: l1 :: l2 :: l3 :: l4 :: l5 :: l6 :: l7 :: l8 :: l9 :: l10 :: l11 :: some (.ref x) :: R) st h b F) : pm_V E pc (l0 :: l1 :: l2 :: l3 :: l4 :: l5 :: l6 :: l7 :: l8 :: l9 :: l10 :: l11 :: o :: R) (.ref x :: st) h b F := r_astoreG hd hi (fun w hw => hn w (Option.some.inj hw)) k
theorem r_astoreN_12 {l0 l1 l2 l3 l4 l5 l6 l7 l8 l9 l10 l11 : Option Value} {o : Option Value} {R : List (Option Value)} (hd : pm_i E pc .astore_n .astore 12 q) (hi : 12 < pm_nL E) (hn : ∀ w, l11 = some w → w.category = 1) (k : pm_V E q (l0 :: l1 :: l2 :: l3 :: l4 :: l5 :: l6 :: l7 :: l8 :: l9 :: l10 :: l11 :: some (.null) :: R) st h b F) : pm_V E pc (l0 :: l1 :: l2 :: l3 :: l4 :: l5 :: l6 :: l7 :: l8 :: l9 :: l10 :: l11 :: o :: R) (.null :: st) h b F := r_astoreNG hd hi (fun w hw => hn w (Option.some.inj hw)) k
theorem r_lstore_12 {l0 l1 l2 l3 l4 l5 l6 l7 l8 l9 l10 l11 : Option Value} {o o2 : Option Value} {R : List (Option Value)} {x : Int64} (hd : pm_i E pc .lstore_n .lstore 12 q) (hi : 13 < pm_nL E) (hn : ∀ w, l11 = some w → w.category = 1) (k : pm_V E q (l0 :: l1 :: l2 :: l3 :: l4 :: l5 :: l6 :: l7 :: l8 :: l9 :: l10 :: l11 :: some (.long x) :: none :: R) st h b F) : pm_V E pc (l0 :: l1 :: l2 :: l3 :: l4 :: l5 :: l6 :: l7 :: l8 :: l9 :: l10 :: l11 :: o :: o2 :: R) (.long x :: st) h b F := r_lstoreG hd hi (fun w hw => hn w (Option.some.inj hw)) k
theorem r_iinc_12 {l0 l1 l2 l3 l4 l5 l6 l7 l8 l9 l10 l11 : Option Value} {R : List (Option Value)} {x n : Int32} (hd : pm_I E pc 12 n q) (hi : 12 < pm_nL E) (hn : ∀ w, l11 = some w → w.category = 1) (k : pm_V E q (l0 :: l1 :: l2 :: l3 :: l4 :: l5 :: l6 :: l7 :: l8 :: l9 :: l10 :: l11 :: some (.int (x + n)) :: R) st h b F) : pm_V E pc (l0 :: l1 :: l2 :: l3 :: l4 :: l5 :: l6 :: l7 :: l8 :: l9 :: l10 :: l11 :: some (.int x) :: R) st h b F := r_iincG hd rfl hi (fun w hw => hn w (Option.some.inj hw)) k
theorem r_iload_13 {l0 l1 l2 l3 l4 l5 l6 l7 l8 l9 l10 l11 l12 : Option Value} {R : List (Option Value)} {x : Int32} (hd : pm_i E pc .iload_n .iload 13 q) (k : pm_V E q (l0 :: l1 :: l2 :: l3 :: l4 :: l5 :: l6 :: l7 :: l8 :: l9 :: l10 :: l11 :: l12 :: some (.int x) :: R) (.int x :: st) h b F) : pm_V E pc (l0 :: l1 :: l2 :: l3 :: l4 :: l5 :: l6 :: l7 :: l8 :: l9 :: l10 :: l11 :: l12 :: some (.int x) :: R) st h b F := r_iloadG hd rfl k
theorem r_lload_13 {l0 l1 l2 l3 l4 l5 l6 l7 l8 l9 l10 l11 l12 : Option Value} {R : List (Option Value)} {x : Int64} (hd : pm_i E pc .lload_n .lload 13 q) (k : pm_V E q (l0 :: l1 :: l2 :: l3 :: l4 :: l5 :: l6 :: l7 :: l8 :: l9 :: l10 :: l11 :: l12 :: some (.long x) :: R) (.long x :: st) h b F) : pm_V E pc (l0 :: l1 :: l2 :: l3 :: l4 :: l5 :: l6 :: l7 :: l8 :: l9 :: l10 :: l11 :: l12 :: some (.long x) :: R) st h b F := r_lloadG hd rfl k
theorem r_aload_13 {l0 l1 l2 l3 l4 l5 l6 l7 l8 l9 l10 l11 l12 : Option Value} {R : List (Option Value)} {x : Nat} (hd : pm_i E pc .aload_n .aload 13 q) (k : pm_V E q (l0 :: l1 :: l2 :: l3 :: l4 :: l5 :: l6 :: l7 :: l8 :: l9 :: l10 :: l11 :: l12 :: some (.ref x) :: R) (.ref x :: st) h b F) : pm_V E pc (l0 :: l1 :: l2 :: l3 :: l4 :: l5 :: l6 :: l7 :: l8 :: l9 :: l10 :: l11 :: l12 :: some (.ref x) :: R) st h b F := r_aloadG hd rfl k
theorem r_aloadN_13 {l0 l1 l2 l3 l4 l5 l6 l7 l8 l9 l10 l11 l12 : Option Value} {R : List (Option Value)} (hd : pm_i E pc .aload_n .aload 13 q) (k : pm_V E q (l0 :: l1 :: l2 :: l3 :: l4 :: l5 :: l6 :: l7 :: l8 :: l9 :: l10 :: l11 :: l12 :: some .null :: R) (.null :: st) h b F) : pm_V E pc (l0 :: l1 :: l2 :: l3 :: l4 :: l5 :: l6 :: l7 :: l8 :: l9 :: l10 :: l11 :: l12 :: some .null :: R) st h b F := r_aloadNG hd rfl k
theorem r_istore_13 {l0 l1 l2 l3 l4 l5 l6 l7 l8 l9 l10 l11 l12 : Option Value} {o : Option Value} {R : List (Option Value)} {x : Int32} (hd : pm_i E pc .istore_n .istore 13 q) (hi : 13 < pm_nL E) (hn : ∀ w, l12 = some w → w.category = 1) (k : pm_V E q (l0 :: l1 :: l2 :: l3 :: l4 :: l5 :: l6 :: l7 :: l8 :: l9 :: l10 :: l11 :: l12 :: some (.int x) :: R) st h b F) : pm_V E pc (l0 :: l1 :: l2 :: l3 :: l4 :: l5 :: l6 :: l7 :: l8 :: l9 :: l10 :: l11 :: l12 :: o :: R) (.int x :: st) h b F := r_istoreG hd hi (fun w hw => hn w (Option.some.inj hw)) k
theorem r_astore_13 {l0 l1 l2 l3 l4 l5 l6 l7 l8 l9 l10 l11 l12 : Option Value} {o : Option Value} {R : List (Option Value)} {x : Nat} (hd : pm_i E pc .astore_n .astore 13 q) (hi : 13 < pm_nL E) (hn : ∀ w, l12 = some w → w.category = 1) (k : pm_V E q (l0 :: l1 :: l2 :: l3 :: l4 :: l5 :: l6 :: l7 :: l8 :: l9 :: l10 :: l11 :: l12 :: some (.ref x) :: R) st h b F) : pm_V E pc (l0 :: l1 :: l2 :: l3 :: l4 :: l5 :: l6 :: l7 :: l8 :: l9 :: l10 :: l11 :: l12 :: o :: R) (.ref x :: st) h b F := r_astoreG hd hi (fun w hw => hn w (Option.some.inj hw)) k
theorem r_astoreN_13 {l0 l1 l2 l3 l4 l5 l6 l7 l8 l9 l10 l11 l12 : Option Value} {o : Option Value} {R : List (Option Value)} (hd : pm_i E pc .astore_n .astore 13 q) (hi : 13 < pm_nL E) (hn : ∀ w, l12 = some w → w.category = 1) (k : pm_V E q (l0 :: l1 :: l2 :: l3 :: l4 :: l5 :: l6 :: l7 :: l8 :: l9 :: l10 :: l11 :: l12 :: some (.null) :: R) st h b F) : pm_V E pc (l0 :: l1 :: l2 :: l3 :: l4 :: l5 :: l6 :: l7 :: l8 :: l9 :: l10 :: l11 :: l12 :: o :: R) (.null :: st) h b F := r_astoreNG hd hi (fun w hw => hn w (Option.some.inj hw)) k
theorem r_lstore_13 {l0 l1 l2 l3 l4 l5 l6 l7 l8 l9 l10 l11 l12 : Option Value} {o o2 : Option Value} {R : List (Option Value)} {x : Int64} (hd : pm_i E pc .lstore_n .lstore 13 q) (hi : 14 < pm_nL E) (hn : ∀ w, l12 = some w → w.category = 1) (k : pm_V E q (l0 :: l1 :: l2 :: l3 :: l4 :: l5 :: l6 :: l7 :: l8 :: l9 :: l10 :: l11 :: l12 :: some (.long x) :: none :: R) st h b F) : pm_V E pc (l0 :: l1 :: l2 :: l3 :: l4 :: l5 :: l6 :: l7 :: l8 :: l9 :: l10 :: l11 :: l12 :: o :: o2 :: R) (.long x :: st) h b F := r_lstoreG hd hi (fun w hw => hn w (Option.some.inj hw)) k
theorem r_iinc_13 {l0 l1 l2 l3 l4 l5 l6 l7 l8 l9 l10 l11 l12 : Option Value} {R : List (Option Value)} {x n : Int32} (hd : pm_I E pc 13 n q) (hi : 13 < pm_nL E) (hn : ∀ w, l12 = some w → w.category = 1) (k : pm_V E q (l0 :: l1 :: l2 :: l3 :: l4 :: l5 :: l6 :: l7 :: l8 :: l9 :: l10 :: l11 :: l12 :: some (.int (x + n)) :: R) st h b F) : pm_V E pc (l0 :: l1 :: l2 :: l3 :: l4 :: l5 :: l6 :: l7 :: l8 :: l9 :: l10 :: l11 :: l12 :: some (.int x) :: R) st h b F := r_iincG hd rfl hi (fun w hw => hn w (Option.some.inj hw)) k
theorem r_iload_14 {l0 l1 l2 l3 l4 l5 l6 l7 l8 l9 l10 l11 l12 l13 : Option Value} {R : List (Option Value)} {x : Int32} (hd : pm_i E pc .iload_n .iload 14 q) (k : pm_V E q (l0 :: l1 :: l2 :: l3 :: l4 :: l5 :: l6 :: l7 :: l8 :: l9 :: l10 :: l11 :: l12 :: l13 :: some (.int x) :: R) (.int x :: st) h b F) : pm_V E pc (l0 :: l1 :: l2 :: l3 :: l4 :: l5 :: l6 :: l7 :: l8 :: l9 :: l10 :: l11 :: l12 :: l13 :: some (.int x) :: R) st h b F := r_iloadG hd rfl k
theorem r_lload_14 {l0 l1 l2 l3 l4 l5 l6 l7 l8 l9 l10 l11 l12 l13 : Option Value} {R : List (Option Value)} {x : Int64} (hd : pm_i E pc .lload_n .lload 14 q) (k : pm_V E q (l0 :: l1 :: l2 :: l3 :: l4 :: l5 :: l6 :: l7 :: l8 :: l9 :: l10 :: l11 :: l12 :: l13 :: some (.long x) :: R) (.long x :: st) h b F) : pm_V E pc (l0 :: l1 :: l2 :: l3 :: l4 :: l5 :: l6 :: l7 :: l8 :: l9 :: l10 :: l11 :: l12 :: l13 :: some (.long x) :: R) st h b F := r_lloadG hd rfl k
theorem r_aload_14 {l0 l1 l2 l3 l4 l5 l6 l7 l8 l9 l10 l11 l12 l13 : Option Value} {R : List (Option Value)} {x : Nat} (hd : pm_i E pc .aload_n .aload 14 q) (k : pm_V E q (l0 :: l1 :: l2 :: l3 :: l4 :: l5 :: l6 :: l7 :: l8 :: l9 :: l10 :: l11 :: l12 :: l13 :: some (.ref x) :: R) (.ref x :: st) h b F) : pm_V E pc (l0 :: l1 :: l2 :: l3 :: l4 :: l5 :: l6 :: l7 :: l8 :: l9 :: l10 :: l11 :: l12 :: l13 :: some (.ref x) :: R) st h b F := r_aloadG hd rfl k
theorem r_aloadN_14 {l0 l1 l2 l3 l4 l5 l6 l7 l8 l9 l10 l11 l12 l13 : Option Value} {R : List (Option Value)} (hd : pm_i E pc .aload_n .aload 14 q) (k : pm_V E q (l0 :: l1 :: l2 :: l3 :: l4 :: l5 :: l6 :: l7 :: l8 :: l9 :: l10 :: l11 :: l12 :: l13 :: some .null :: R) (.null :: st) h b F) : pm_V E pc (l0 :: l1 :: l2 :: l3 :: l4 :: l5 :: l6 :: l7 :: l8 :: l9 :: l10 :: l11 :: l12 :: l13 :: some .null :: R) st h b F := r_aloadNG hd rfl k
theorem r_istore_14 {l0 l1 l2 l3 l4 l5 l6 l7 l8 l9 l10 l11 l12 l13 : Option Value} {o : Option Value} {R : List (Option Value)} {x : Int32} (hd : pm_i E pc .istore_n .istore 14 q) (hi : 14 < pm_nL E) (hn : ∀ w, l13 = some w → w.category = 1) (k : pm_V E q (l0 :: l1 :: l2 :: l3 :: l4 :: l5 :: l6 :: l7 :: l8 :: l9 :: l10 :: l11 :: l12 :: l13 :: some (.int x) :: R) st h b F) : pm_V E pc (l0 :: l1 :: l2 :: l3 :: l4 :: l5 :: l6 :: l7 :: l8 :: l9 :: l10 :: l11 :: l12 :: l13 :: o :: R) (.int x :: st) h b F := r_istoreG hd hi (fun w hw => hn w (Option.some.inj hw)) k
theorem r_astore_14 {l0 l1 l2 l3 l4 l5 l6 l7 l8 l9 l10 l11 l12 l13 : Option Value} {o : Option Value} {R : List (Option Value)} {x : Nat} (hd : pm_i E pc .astore_n .astore 14 q) (hi : 14 < pm_nL E) (hn : ∀ w, l13 = some w → w.category = 1) (k : pm_V E q (l0 :: l1 :: l2 :: l3 :: l4 :: l5 :: l6 :: l7 :: l8 :: l9 :: l10 :: l11 :: l12 :: l13 :: some (.ref x) :: R) st h b F) : pm_V E pc (l0 :: l1 :: l2 :: l3 :: l4 :: l5 :: l6 :: l7 :: l8 :: l9 :: l10 :: l11 :: l12 :: l13 :: o :: R) (.ref x :: st) h b F := r_astoreG hd hi (fun w hw => hn w (Option.some.inj hw)) k
theorem r_astoreN_14 {l0 l1 l2 l3 l4 l5 l6 l7 l8 l9 l10 l11 l12 l13 : Option Value} {o : Option Value} {R : List (Option Value)} (hd : pm_i E pc .astore_n .astore 14 q) (hi : 14 < pm_nL E) (hn : ∀ w, l13 = some w → w.category = 1) (k : pm_V E q (l0 :: l1 :: l2 :: l3 :: l4 :: l5 :: l6 :: l7 :: l8 :: l9 :: l10 :: l11 :: l12 :: l13 :: some (.null) :: R) st h b F) : pm_V E pc (l0 :: l1 :: l2 :: l3 :: l4 :: l5 :: l6 :: l7 :: l8 :: l9 :: l10 :: l11 :: l12 :: l13 :: o :: R) (.null :: st) h b F := r_astoreNG hd hi (fun w hw => hn w (Option.some.inj hw)) k
theorem r_lstore_14 {l0 l1 l2 l3 l4 l5 l6 l7 l8 l9 l10 l11 l12 l13 : Option Value} {o o2 : Option Value} {R : List (Option Value)} {x : Int64} (hd : pm_i E pc .lstore_n .lstore 14 q) (hi : 15 < pm_nL E) (hn : ∀ w, l13 = some w → w.category = 1) (k : pm_V E q (l0 :: l1 :: l2 :: l3 :: l4 :: l5 :: l6 :: l7 :: l8 :: l9 :: l10 :: l11 :: l12 :: l13 :: some (.long x) :: none :: R) st h b F) : pm_V E pc (l0 :: l1 :: l2 :: l3 :: l4 :: l5 :: l6 :: l7 :: l8 :: l9 :: l10 :: l11 :: l12 :: l13 :: o :: o2 :: R) (.long x :: st) h b F := r_lstoreG hd hi (fun w hw => hn w (Option.some.inj hw)) k
theorem r_iinc_14 {l0 l1 l2 l3 l4 l5 l6 l7 l8 l9 l10 l11 l12 l13 : Option Value} {R : List (Option Value)} {x n : Int32} (hd : pm_I E pc 14 n q) (hi : 14 < pm_nL E) (hn : ∀ w, l13 = some w → w.category = 1) (k : pm_V E q (l0 :: l1 :: l2 :: l3 :: l4 :: l5 :: l6 :: l7 :: l8 :: l9 :: l10 :: l11 :: l12 :: l13 :: some (.int (x + n)) :: R) st h b F) : pm_V E pc (l0 :: l1 :: l2 :: l3 :: l4 :: l5 :: l6 :: l7 :: l8 :: l9 :: l10 :: l11 :: l12 :: l13 :: some (.int x) :: R) st h b F := r_iincG hd rfl hi (fun w hw => hn w (Option.some.inj hw)) k
theorem r_iload_15 {l0 l1 l2 l3 l4 l5 l6 l7 l8 l9 l10 l11 l12 l13 l14 : Option Value} {R : List (Option Value)} {x : Int32} (hd : pm_i E pc .iload_n .iload 15 q) (k : pm_V E q (l0 :: l1 :: l2 :: l3 :: l4 :: l5 :: l6 :: l7 :: l8 :: l9 :: l10 :: l11 :: l12 :: l13 :: l14 :: some (.int x) :: R) (.int x :: st) h b F) : pm_V E pc (l0 :: l1 :: l2 :: l3 :: l4 :: l5 :: l6 :: l7 :: l8 :: l9 :: l10 :: l11 :: l12 :: l13 :: l14 :: some (.int x) :: R) st h b F := r_iloadG hd rfl k
theorem r_lload_15 {l0 l1 l2 l3 l4 l5 l6 l7 l8 l9 l10 l11 l12 l13 l14 : Option Value} {R : List (Option Value)} {x : Int64} (hd : pm_i E pc .lload_n .lload 15 q) (k : pm_V E q (l0 :: l1 :: l2 :: l3 :: l4 :: l5 :: l6 :: l7 :: l8 :: l9 :: l10 :: l11 :: l12 :: l13 :: l14 :: some (.long x) :: R) (.long x :: st) h b F) : pm_V E pc (l0 :: l1 :: l2 :: l3 :: l4 :: l5 :: l6 :: l7 :: l8 :: l9 :: l10 :: l11 :: l12 :: l13 :: l14 :: some (.long x) :: R) st h b F := r_lloadG hd rfl k
theorem r_aload_15 {l0 l1 l2 l3 l4 l5 l6 l7 l8 l9 l10 l11 l12 l13 l14 : Option Value} {R : List (Option Value)} {x : Nat} (hd : pm_i E pc .aload_n .aload 15 q) (k : pm_V E q (l0 :: l1 :: l2 :: l3 :: l4 :: l5 :: l6 :: l7 :: l8 :: l9 :: l10 :: l11 :: l12 :: l13 :: l14 :: some (.ref x) :: R) (.ref x :: st) h b F) : pm_V E pc (l0 :: l1 :: l2 :: l3 :: l4 :: l5 :: l6 :: l7 :: l8 :: l9 :: l10 :: l11 :: l12 :: l13 :: l14 :: some (.ref x) :: R) st h b F := r_aloadG hd rfl k
theorem r_aloadN_15 {l0 l1 l2 l3 l4 l5 l6 l7 l8 l9 l10 l11 l12 l13 l14 : Option Value} {R : List (Option Value)} (hd : pm_i E pc .aload_n .aload 15 q) (k : pm_V E q (l0 :: l1 :: l2 :: l3 :: l4 :: l5 :: l6 :: l7 :: l8 :: l9 :: l10 :: l11 :: l12 :: l13 :: l14 :: some .null :: R) (.null :: st) h b F) : pm_V E pc (l0 :: l1 :: l2 :: l3 :: l4 :: l5 :: l6 :: l7 :: l8 :: l9 :: l10 :: l11 :: l12 :: l13 :: l14 :: some .null :: R) st h b F := r_aloadNG hd rfl k
theorem r_istore_15 {l0 l1 l2 l3 l4 l5 l6 l7 l8 l9 l10 l11 l12 l13 l14 : Option Value} {o : Option Value} {R : List (Option Value)} {x : Int32} (hd : pm_i E pc .istore_n .istore 15 q) (hi : 15 < pm_nL E) (hn : ∀ w, l14 = some w → w.category = 1) (k : pm_V E q (l0 :: l1 :: l2 :: l3 :: l4 :: l5 :: l6 :: l7 :: l8 :: l9 :: l10 :: l11 :: l12 :: l13 :: l14 :: some (.int x) :: R) st h b F) : pm_V E pc (l0 :: l1 :: l2 :: l3 :: l4 :: l5 :: l6 :: l7 :: l8 :: l9 :: l10 :: l11 :: l12 :: l13 :: l14 :: o :: R) (.int x :: st) h b F := r_istoreG hd hi (fun w hw => hn w (Option.some.inj hw)) k
theorem r_astore_15 {l0 l1 l2 l3 l4 l5 l6 l7 l8 l9 l10 l11 l12 l13 l14 : Option Value} {o : Option Value} {R : List (Option Value)} {x : Nat} (hd : pm_i E pc .astore_n .astore 15 q) (hi : 15 < pm_nL E) (hn : ∀ w, l14 = some w → w.category = 1) (k : pm_V E q (l0 :: l1 :: l2 :: l3 :: l4 :: l5 :: l6 :: l7 :: l8 :: l9 :: l10 :: l11 :: l12 :: l13 :: l14 :: some (.ref x) :: R) st h b F) : pm_V E pc (l0 :: l1 :: l2 :: l3 :: l4 :: l5 :: l6 :: l7 :: l8 :: l9 :: l10 :: l11 :: l12 :: l13 :: l14 :: o :: R) (.ref x :: st) h b F := r_astoreG hd hi (fun w hw => hn w (Option.some.inj hw)) k
theorem r_astoreN_15 {l0 l1 l2 l3 l4 l5 l6 l7 l8 l9 l10 l11 l12 l13 l14 : Option Value} {o : Option Value} {R : List (Option Value)} (hd : pm_i E pc .astore_n .astore 15 q) (hi : 15 < pm_nL E) (hn : ∀ w, l14 = some w → w.category = 1) (k : pm_V E q (l0 :: l1 :: l2 :: l3 :: l4 :: l5 :: l6 :: l7 :: l8 :: l9 :: l10 :: l11 :: l12 :: l13 :: l14 :: some (.null) :: R) st h b F) : pm_V E pc (l0 :: l1 :: l2 :: l3 :: l4 :: l5 :: l6 :: l7 :: l8 :: l9 :: l10 :: l11 :: l12 :: l13 :: l14 :: o :: R) (.null :: st) h b F := r_astoreNG hd hi (fun w hw => hn w (Option.some.inj hw)) k
theorem r_lstore_15 {l0 l1 l2 l3 l4 l5 l6 l7 l8 l9 l10 l11 l12 l13 l14 : Option Value} {o o2 : Option Value} {R : List (Option Value)} {x : Int64} (hd : pm_i E pc .lstore_n .lstore 15 q) (hi : 16 < pm_nL E) (hn : ∀ w, l14 = some w → w.category = 1) (k : pm_V E q (l0 :: l1 :: l2 :: l3 :: l4 :: l5 :: l6 :: l7 :: l8 :: l9 :: l10 :: l11 :: l12 :: l13 :: l14 :: some (.long x) :: none :: R) st h b F) : pm_V E pc (l0 :: l1 :: l2 :: l3 :: l4 :: l5 :: l6 :: l7 :: l8 :: l9 :: l10 :: l11 :: l12 :: l13 :: l14 :: o :: o2 :: R) (.long x :: st) h b F := r_lstoreG hd hi (fun w hw => hn w (Option.some.inj hw)) k
theorem r_iinc_15 {l0 l1 l2 l3 l4 l5 l6 l7 l8 l9 l10 l11 l12 l13 l14 : Option Value} {R : List (Option Value)} {x n : Int32} (hd : pm_I E pc 15 n q) (hi : 15 < pm_nL E) (hn : ∀ w, l14 = some w → w.category = 1) (k : pm_V E q (l0 :: l1 :: l2 :: l3 :: l4 :: l5 :: l6 :: l7 :: l8 :: l9 :: l10 :: l11 :: l12 :: l13 :: l14 :: some (.int (x + n)) :: R) st h b F) : pm_V E pc (l0 :: l1 :: l2 :: l3 :: l4 :: l5 :: l6 :: l7 :: l8 :: l9 :: l10 :: l11 :: l12 :: l13 :: l14 :: some (.int x) :: R) st h b F := r_iincG hd rfl hi (fun w hw => hn w (Option.some.inj hw)) k
theorem r_iadd {x y : Int32} (hd : pm_D E pc 1 .iadd q) (k : pm_V E q L (.int (x + y) :: st) h b F) : pm_V E pc L (.int y :: .int x :: st) h b F := by
  intro G p l e s m args below meth c H locs ls cells slots Q X hR hl hL hc hs hE
  obtain ⟨d, rfl⟩ := hd
  exact lv_iadd X.1 X.2.1 d (k G p l e s m args below meth c H locs ls cells slots Q X hR hl hL hc hs hE)
theorem r_isub {x y : Int32} (hd : pm_D E pc 1 .isub q) (k : pm_V E q L (.int (x - y) :: st) h b F) : pm_V E pc L (.int y :: .int x :: st) h b F := by
  intro G p l e s m args below meth c H locs ls cells slots Q X hR hl hL hc hs hE
  obtain ⟨d, rfl⟩ := hd
  exact lv_isub X.1 X.2.1 d (k G p l e s m args below meth c H locs ls cells slots Q X hR hl hL hc hs hE)
theorem r_imul {x y : Int32} (hd : pm_D E pc 1 .imul q) (k : pm_V E q L (.int (x * y) :: st) h b F) : pm_V E pc L (.int y :: .int x :: st) h b F := by
  intro G p l e s m args below meth c H locs ls cells slots Q X hR hl hL hc hs hE
  obtain ⟨d, rfl⟩ := hd
  exact lv_imul X.1 X.2.1 d (k G p l e s m args below meth c H locs ls cells slots Q X hR hl hL hc hs hE)
theorem r_iand {x y : Int32} (hd : pm_D E pc 1 .iand q) (k : pm_V E q L (.int (x &&& y) :: st) h b F) : pm_V E pc L (.int y :: .int x :: st) h b F := by
  intro G p l e s m args below meth c H locs ls cells slots Q X hR hl hL hc hs hE
  obtain ⟨d, rfl⟩ := hd
  exact lv_iand X.1 X.2.1 d (k G p l e s m args below meth c H locs ls cells slots Q X hR hl hL hc hs hE)
theorem r_ior {x y : Int32} (hd : pm_D E pc 1 .ior q) (k : pm_V E q L (.int (x ||| y) :: st) h b F) : pm_V E pc L (.int y :: .int x :: st) h b F := by
  intro G p l e s m args below meth c H locs ls cells slots Q X hR hl hL hc hs hE
  obtain ⟨d, rfl⟩ := hd
  exact lv_ior X.1 X.2.1 d (k G p l e s m args below meth c H locs ls cells slots Q X hR hl hL hc hs hE)
theorem r_ixor {x y : Int32} (hd : pm_D E pc 1 .ixor q) (k : pm_V E q L (.int (x ^^^ y) :: st) h b F) : pm_V E pc L (.int y :: .int x :: st) h b F := by
  intro G p l e s m args below meth c H locs ls cells slots Q X hR hl hL hc hs hE
  obtain ⟨d, rfl⟩ := hd
  exact lv_ixor X.1 X.2.1 d (k G p l e s m args below meth c H locs ls cells slots Q X hR hl hL hc hs hE)
theorem r_ladd {x y : Int64} (hd : pm_D E pc 1 .ladd q) (k : pm_V E q L (.long (x + y) :: st) h b F) : pm_V E pc L (.long y :: .long x :: st) h b F := by
  intro G p l e s m args below meth c H locs ls cells slots Q X hR hl hL hc hs hE
  obtain ⟨d, rfl⟩ := hd
  exact lv_ladd X.1 X.2.1 d (k G p l e s m args below meth c H locs ls cells slots Q X hR hl hL hc hs hE)
theorem r_lsub {x y : Int64} (hd : pm_D E pc 1 .lsub q) (k : pm_V E q L (.long (x - y) :: st) h b F) : pm_V E pc L (.long y :: .long x :: st) h b F := by
  intro G p l e s m args below meth c H locs ls cells slots Q X hR hl hL hc hs hE
  obtain ⟨d, rfl⟩ := hd
  exact lv_lsub X.1 X.2.1 d (k G p l e s m args below meth c H locs ls cells slots Q X hR hl hL hc hs hE)
theorem r_lmul {x y : Int64} (hd : pm_D E pc 1 .lmul q) (k : pm_V E q L (.long (x * y) :: st) h b F) : pm_V E pc L (.long y :: .long x :: st) h b F := by
  intro G p l e s m args below meth c H locs ls cells slots Q X hR hl hL hc hs hE
  obtain ⟨d, rfl⟩ := hd
  exact lv_lmul X.1 X.2.1 d (k G p l e s m args below meth c H locs ls cells slots Q X hR hl hL hc hs hE)
theorem r_land {x y : Int64} (hd : pm_D E pc 1 .land q) (k : pm_V E q L (.long (x &&& y) :: st) h b F) : pm_V E pc L (.long y :: .long x :: st) h b F := by
  intro G p l e s m args below meth c H locs ls cells slots Q X hR hl hL hc hs hE
  obtain ⟨d, rfl⟩ := hd
  exact lv_land X.1 X.2.1 d (k G p l e s m args below meth c H locs ls cells slots Q X hR hl hL hc hs hE)
theorem r_lor {x y : Int64} (hd : pm_D E pc 1 .lor q) (k : pm_V E q L (.long (x ||| y) :: st) h b F) : pm_V E pc L (.long y :: .long x :: st) h b F := by
  intro G p l e s m args below meth c H locs ls cells slots Q X hR hl hL hc hs hE
  obtain ⟨d, rfl⟩ := hd
  exact lv_lor X.1 X.2.1 d (k G p l e s m args below meth c H locs ls cells slots Q X hR hl hL hc hs hE)
theorem r_lxor {x y : Int64} (hd : pm_D E pc 1 .lxor q) (k : pm_V E q L (.long (x ^^^ y) :: st) h b F) : pm_V E pc L (.long y :: .long x :: st) h b F := by
  intro G p l e s m args below meth c H locs ls cells slots Q X hR hl hL hc hs hE
  obtain ⟨d, rfl⟩ := hd
  exact lv_lxor X.1 X.2.1 d (k G p l e s m args below meth c H locs ls cells slots Q X hR hl hL hc hs hE)
theorem r_idiv {x y : Int32} (hd : pm_D E pc 1 .idiv q) (hne : ¬ y = 0) (k : pm_V E q L (.int (x / y) :: st) h b F) : pm_V E pc L (.int y :: .int x :: st) h b F := by
  intro G p l e s m args below meth c H locs ls cells slots Q X hR hl hL hc hs hE
  obtain ⟨d, rfl⟩ := hd
  exact lv_idiv X.1 X.2.1 d hne (k G p l e s m args below meth c H locs ls cells slots Q X hR hl hL hc hs hE)
theorem r_irem {x y : Int32} (hd : pm_D E pc 1 .irem q) (hne : ¬ y = 0) (k : pm_V E q L (.int (x - x / y * y) :: st) h b F) : pm_V E pc L (.int y :: .int x :: st) h b F := by
  intro G p l e s m args below meth c H locs ls cells slots Q X hR hl hL hc hs hE
  obtain ⟨d, rfl⟩ := hd
  exact lv_irem X.1 X.2.1 d hne (k G p l e s m args below meth c H locs ls cells slots Q X hR hl hL hc hs hE)
theorem r_ldiv {x y : Int64} (hd : pm_D E pc 1 .ldiv q) (hne : ¬ y = 0) (k : pm_V E q L (.long (x / y) :: st) h b F) : pm_V E pc L (.long y :: .long x :: st) h b F := by
  intro G p l e s m args below meth c H locs ls cells slots Q X hR hl hL hc hs hE
  obtain ⟨d, rfl⟩ := hd
  exact lv_ldiv X.1 X.2.1 d hne (k G p l e s m args below meth c H locs ls cells slots Q X hR hl hL hc hs hE)
theorem r_lrem {x y : Int64} (hd : pm_D E pc 1 .lrem q) (hne : ¬ y = 0) (k : pm_V E q L (.long (x - x / y * y) :: st) h b F) : pm_V E pc L (.long y :: .long x :: st) h b F := by
  intro G p l e s m args below meth c H locs ls cells slots Q X hR hl hL hc hs hE
  obtain ⟨d, rfl⟩ := hd
  exact lv_lrem X.1 X.2.1 d hne (k G p l e s m args below meth c H locs ls cells slots Q X hR hl hL hc hs hE)
theorem r_ineg {x : Int32} (hd : pm_D E pc 1 .ineg q) (k : pm_V E q L (.int (-x) :: st) h b F) : pm_V E pc L (.int x :: st) h b F := by
  intro G p l e s m args below meth c H locs ls cells slots Q X hR hl hL hc hs hE
  obtain ⟨d, rfl⟩ := hd
  exact lv_ineg X.1 X.2.1 d (k G p l e s m args below meth c H locs ls cells slots Q X hR hl hL hc hs hE)
theorem r_ishl {x y : Int32} (hd : pm_D E pc 1 .ishl q) (k : pm_V E q L (.int (x <<< (y &&& 31)) :: st) h b F) : pm_V E pc L (.int y :: .int x :: st) h b F := by
  intro G p l e s m args below meth c H locs ls cells slots Q X hR hl hL hc hs hE
  obtain ⟨d, rfl⟩ := hd
  exact lv_ishl X.1 X.2.1 d (k G p l e s m args below meth c H locs ls cells slots Q X hR hl hL hc hs hE)
theorem r_ishr {x y : Int32} (hd : pm_D E pc 1 .ishr q) (k : pm_V E q L (.int (x >>> (y &&& 31)) :: st) h b F) : pm_V E pc L (.int y :: .int x :: st) h b F := by
  intro G p l e s m args below meth c H locs ls cells slots Q X hR hl hL hc hs hE
  obtain ⟨d, rfl⟩ := hd
  exact lv_ishr X.1 X.2.1 d (k G p l e s m args below meth c H locs ls cells slots Q X hR hl hL hc hs hE)
theorem r_i2l {x : Int32} (hd : pm_D E pc 1 .i2l q) (k : pm_V E q L (.long x.toInt64 :: st) h b F) : pm_V E pc L (.int x :: st) h b F := by
  intro G p l e s m args below meth c H locs ls cells slots Q X hR hl hL hc hs hE
  obtain ⟨d, rfl⟩ := hd
  exact lv_i2l X.1 X.2.1 d rfl (k G p l e s m args below meth c H locs ls cells slots Q X hR hl hL hc hs hE)
theorem r_l2i {x : Int64} (hd : pm_D E pc 1 .l2i q) (k : pm_V E q L (.int x.toInt32 :: st) h b F) : pm_V E pc L (.long x :: st) h b F := by
  intro G p l e s m args below meth c H locs ls cells slots Q X hR hl hL hc hs hE
  obtain ⟨d, rfl⟩ := hd
  exact lv_l2i X.1 X.2.1 d rfl (k G p l e s m args below meth c H locs ls cells slots Q X hR hl hL hc hs hE)
theorem r_i2b {x : Int32} (hd : pm_D E pc 1 .i2b q) (k : pm_V E q L (.int x.toInt8.toInt32 :: st) h b F) : pm_V E pc L (.int x :: st) h b F := by
  intro G p l e s m args below meth c H locs ls cells slots Q X hR hl hL hc hs hE
  obtain ⟨d, rfl⟩ := hd
  exact lv_i2b X.1 X.2.1 d rfl (k G p l e s m args below meth c H locs ls cells slots Q X hR hl hL hc hs hE)
theorem r_lushr {x : Int64} {y : Int32} (hd : pm_D E pc 1 .lushr q) (k : pm_V E q L (.long (x.toUInt64 >>> (y.toInt64.toUInt64 &&& Int64.toUInt64 63)).toInt64 :: st) h b F) : pm_V E pc L (.int y :: .long x :: st) h b F := by
  intro G p l e s m args below meth c H locs ls cells slots Q X hR hl hL hc hs hE
  obtain ⟨d, rfl⟩ := hd
  exact lv_lushr X.1 X.2.1 d rfl (k G p l e s m args below meth c H locs ls cells slots Q X hR hl hL hc hs hE)
theorem r_lshl {x : Int64} {y : Int32} (hd : pm_D E pc 1 .lshl q) (k : pm_V E q L (.long (x <<< (y.toInt64 &&& 63)) :: st) h b F) : pm_V E pc L (.int y :: .long x :: st) h b F := by
  intro G p l e s m args below meth c H locs ls cells slots Q X hR hl hL hc hs hE
  obtain ⟨d, rfl⟩ := hd
  exact lv_lshl X.1 X.2.1 d rfl (k G p l e s m args below meth c H locs ls cells slots Q X hR hl hL hc hs hE)
theorem r_lshr {x : Int64} {y : Int32} (hd : pm_D E pc 1 .lshr q) (k : pm_V E q L (.long (x >>> (y.toInt64 &&& 63)) :: st) h b F) : pm_V E pc L (.int y :: .long x :: st) h b F := by
  intro G p l e s m args below meth c H locs ls cells slots Q X hR hl hL hc hs hE
  obtain ⟨d, rfl⟩ := hd
  exact lv_lshr X.1 X.2.1 d rfl (k G p l e s m args below meth c H locs ls cells slots Q X hR hl hL hc hs hE)
theorem r_lcmp {x y : Int64} (hd : pm_D E pc 1 .lcmp q) (k : pm_V E q L (.int (lg_cmp x y) :: st) h b F) : pm_V E pc L (.long y :: .long x :: st) h b F := by
  intro G p l e s m args below meth c H locs ls cells slots Q X hR hl hL hc hs hE
  obtain ⟨d, rfl⟩ := hd
  exact W.lcmp X.1 X.2.1 d (k G p l e s m args below meth c H locs ls cells slots Q X hR hl hL hc hs hE)
theorem r_dup {v : Value} (hd : pm_D E pc 1 .dup q) (hv : v.category = 1) (k : pm_V E q L (v :: v :: st) h b F) : pm_V E pc L (v :: st) h b F := by
  intro G p l e s m args below meth c H locs ls cells slots Q X hR hl hL hc hs hE
  obtain ⟨d, rfl⟩ := hd
  exact lv_dup X.1 X.2.1 d (by rw [pm_rv_cat]; exact hv) (k G p l e s m args below meth c H locs ls cells slots Q X hR hl hL hc hs hE)
theorem r_dup2 {v u : Value} (hd : pm_D E pc 1 .dup2 q) (hv : v.category = 1) (hu : u.category = 1) (k : pm_V E q L (v :: u :: v :: u :: st) h b F) : pm_V E pc L (v :: u :: st) h b F := by
  intro G p l e s m args below meth c H locs ls cells slots Q X hR hl hL hc hs hE
  obtain ⟨d, rfl⟩ := hd
  exact lv_dup2_11 X.1 X.2.1 d (by rw [pm_rv_cat]; exact hv) (by rw [pm_rv_cat]; exact hu) (k G p l e s m args below meth c H locs ls cells slots Q X hR hl hL hc hs hE)
theorem r_dup2l {v : Value} (hd : pm_D E pc 1 .dup2 q) (hv : v.category = 2) (k : pm_V E q L (v :: v :: st) h b F) : pm_V E pc L (v :: st) h b F := by
  intro G p l e s m args below meth c H locs ls cells slots Q X hR hl hL hc hs hE
  obtain ⟨d, rfl⟩ := hd
  exact lv_dup2_2 X.1 X.2.1 d (by rw [pm_rv_cat]; exact hv) (k G p l e s m args below meth c H locs ls cells slots Q X hR hl hL hc hs hE)
theorem r_if_eq {x : Int32} {t : Nat} (hd : pm_B E pc (fun z => .ifCond .eq z) t q) (kt : x = 0 → pm_V E t L st h b F) (kf : ¬ x = 0 → pm_V E q L st h b F) : pm_V E pc L (.int x :: st) h b F := by
  intro G p l e s m args below meth c H locs ls cells slots Q X hR hl hL hc hs hE
  obtain ⟨off, d, ht, rfl⟩ := hd
  exact lv_if_eq X.1 X.2.1 d ht (fun z => kt z G p l e s m args below meth c H locs ls cells slots Q X hR hl hL hc hs hE) (fun z => kf z G p l e s m args below meth c H locs ls cells slots Q X hR hl hL hc hs hE)
theorem r_icmp_eq {x y : Int32} {t : Nat} (hd : pm_B E pc (fun z => .if_icmp .eq z) t q) (kt : x = y → pm_V E t L st h b F) (kf : ¬ x = y → pm_V E q L st h b F) : pm_V E pc L (.int y :: .int x :: st) h b F := by
  intro G p l e s m args below meth c H locs ls cells slots Q X hR hl hL hc hs hE
  obtain ⟨off, d, ht, rfl⟩ := hd
  exact lv_icmp_eq X.1 X.2.1 d ht (fun z => kt z G p l e s m args below meth c H locs ls cells slots Q X hR hl hL hc hs hE) (fun z => kf z G p l e s m args below meth c H locs ls cells slots Q X hR hl hL hc hs hE)
theorem r_if_ne {x : Int32} {t : Nat} (hd : pm_B E pc (fun z => .ifCond .ne z) t q) (kt : ¬ x = 0 → pm_V E t L st h b F) (kf : x = 0 → pm_V E q L st h b F) : pm_V E pc L (.int x :: st) h b F := by
  intro G p l e s m args below meth c H locs ls cells slots Q X hR hl hL hc hs hE
  obtain ⟨off, d, ht, rfl⟩ := hd
  exact lv_if_ne X.1 X.2.1 d ht (fun z => kt z G p l e s m args below meth c H locs ls cells slots Q X hR hl hL hc hs hE) (fun z => kf z G p l e s m args below meth c H locs ls cells slots Q X hR hl hL hc hs hE)
theorem r_icmp_ne {x y : Int32} {t : Nat} (hd : pm_B E pc (fun z => .if_icmp .ne z) t q) (kt : ¬ x = y → pm_V E t L st h b F) (kf : x = y → pm_V E q L st h b F) : pm_V E pc L (.int y :: .int x :: st) h b F := by
  intro G p l e s m args below meth c H locs ls cells slots Q X hR hl hL hc hs hE
  obtain ⟨off, d, ht, rfl⟩ := hd
  exact lv_icmp_ne X.1 X.2.1 d ht (fun z => kt z G p l e s m args below meth c H locs ls cells slots Q X hR hl hL hc hs hE) (fun z => kf z G p l e s m args below meth c H locs ls cells slots Q X hR hl hL hc hs hE)
theorem r_if_lt {x : Int32} {t : Nat} (hd : pm_B E pc (fun z => .ifCond .lt z) t q) (kt : x < 0 → pm_V E t L st h b F) (kf : ¬ x < 0 → pm_V E q L st h b F) : pm_V E pc L (.int x :: st) h b F := by
  intro G p l e s m args below meth c H locs ls cells slots Q X hR hl hL hc hs hE
  obtain ⟨off, d, ht, rfl⟩ := hd
  exact lv_if_lt X.1 X.2.1 d ht (fun z => kt z G p l e s m args below meth c H locs ls cells slots Q X hR hl hL hc hs hE) (fun z => kf z G p l e s m args below meth c H locs ls cells slots Q X hR hl hL hc hs hE)
theorem r_icmp_lt {x y : Int32} {t : Nat} (hd : pm_B E pc (fun z => .if_icmp .lt z) t q) (kt : x < y → pm_V E t L st h b F) (kf : ¬ x < y → pm_V E q L st h b F) : pm_V E pc L (.int y :: .int x :: st) h b F := by
  intro G p l e s m args below meth c H locs ls cells slots Q X hR hl hL hc hs hE
  obtain ⟨off, d, ht, rfl⟩ := hd
  exact lv_icmp_lt X.1 X.2.1 d ht (fun z => kt z G p l e s m args below meth c H locs ls cells slots Q X hR hl hL hc hs hE) (fun z => kf z G p l e s m args below meth c H locs ls cells slots Q X hR hl hL hc hs hE)
theorem r_if_ge {x : Int32} {t : Nat} (hd : pm_B E pc (fun z => .ifCond .ge z) t q) (kt : 0 ≤ x → pm_V E t L st h b F) (kf : ¬ 0 ≤ x → pm_V E q L st h b F) : pm_V E pc L (.int x :: st) h b F := by
  intro G p l e s m args below meth c H locs ls cells slots Q X hR hl hL hc hs hE
  obtain ⟨off, d, ht, rfl⟩ := hd
  exact lv_if_ge X.1 X.2.1 d ht (fun z => kt z G p l e s m args below meth c H locs ls cells slots Q X hR hl hL hc hs hE) (fun z => kf z G p l e s m args below meth c H locs ls cells slots Q X hR hl hL hc hs hE)
theorem r_icmp_ge {x y : Int32} {t : Nat} (hd : pm_B E pc (fun z => .if_icmp .ge z) t q) (kt : y ≤ x → pm_V E t L st h b F) (kf : ¬ y ≤ x → pm_V E q L st h b F) : pm_V E pc L (.int y :: .int x :: st) h b F := by
  intro G p l e s m args below meth c H locs ls cells slots Q X hR hl hL hc hs hE
  obtain ⟨off, d, ht, rfl⟩ := hd
  exact lv_icmp_ge X.1 X.2.1 d ht (fun z => kt z G p l e s m args below meth c H locs ls cells slots Q X hR hl hL hc hs hE) (fun z => kf z G p l e s m args below meth c H locs ls cells slots Q X hR hl hL hc hs hE)
theorem r_if_gt {x : Int32} {t : Nat} (hd : pm_B E pc (fun z => .ifCond .gt z) t q) (kt : 0 < x → pm_V E t L st h b F) (kf : ¬ 0 < x → pm_V E q L st h b F) : pm_V E pc L (.int x :: st) h b F := by
  intro G p l e s m args below meth c H locs ls cells slots Q X hR hl hL hc hs hE
  obtain ⟨off, d, ht, rfl⟩ := hd
  exact lv_if_gt X.1 X.2.1 d ht (fun z => kt z G p l e s m args below meth c H locs ls cells slots Q X hR hl hL hc hs hE) (fun z => kf z G p l e s m args below meth c H locs ls cells slots Q X hR hl hL hc hs hE)
theorem r_icmp_gt {x y : Int32} {t : Nat} (hd : pm_B E pc (fun z => .if_icmp .gt z) t q) (kt : y < x → pm_V E t L st h b F) (kf : ¬ y < x → pm_V E q L st h b F) : pm_V E pc L (.int y :: .int x :: st) h b F := by
  intro G p l e s m args below meth c H locs ls cells slots Q X hR hl hL hc hs hE
  obtain ⟨off, d, ht, rfl⟩ := hd
  exact lv_icmp_gt X.1 X.2.1 d ht (fun z => kt z G p l e s m args below meth c H locs ls cells slots Q X hR hl hL hc hs hE) (fun z => kf z G p l e s m args below meth c H locs ls cells slots Q X hR hl hL hc hs hE)
theorem r_if_le {x : Int32} {t : Nat} (hd : pm_B E pc (fun z => .ifCond .le z) t q) (kt : x ≤ 0 → pm_V E t L st h b F) (kf : ¬ x ≤ 0 → pm_V E q L st h b F) : pm_V E pc L (.int x :: st) h b F := by
  intro G p l e s m args below meth c H locs ls cells slots Q X hR hl hL hc hs hE
  obtain ⟨off, d, ht, rfl⟩ := hd
  exact lv_if_le X.1 X.2.1 d ht (fun z => kt z G p l e s m args below meth c H locs ls cells slots Q X hR hl hL hc hs hE) (fun z => kf z G p l e s m args below meth c H locs ls cells slots Q X hR hl hL hc hs hE)
theorem r_icmp_le {x y : Int32} {t : Nat} (hd : pm_B E pc (fun z => .if_icmp .le z) t q) (kt : x ≤ y → pm_V E t L st h b F) (kf : ¬ x ≤ y → pm_V E q L st h b F) : pm_V E pc L (.int y :: .int x :: st) h b F := by
  intro G p l e s m args below meth c H locs ls cells slots Q X hR hl hL hc hs hE
  obtain ⟨off, d, ht, rfl⟩ := hd
  exact lv_icmp_le X.1 X.2.1 d ht (fun z => kt z G p l e s m args below meth c H locs ls cells slots Q X hR hl hL hc hs hE) (fun z => kf z G p l e s m args below meth c H locs ls cells slots Q X hR hl hL hc hs hE)
theorem r_goto {t : Nat} (hd : pm_B E pc (fun z => .goto z) t q) (k : pm_V E t L st h b F) : pm_V E pc L st h b F := by
  intro G p l e s m args below meth c H locs ls cells slots Q X hR hl hL hc hs hE
  obtain ⟨off, d, ht, rfl⟩ := hd
  exact lv_goto X.1 X.2.1 d ht (k G p l e s m args below meth c H locs ls cells slots Q X hR hl hL hc hs hE)
theorem r_ifnull {t x : Nat} (hd : pm_B E pc (fun z => .ifnull z) t q) (k : pm_V E q L st h b F) : pm_V E pc L (.ref x :: st) h b F := by
  intro G p l e s m args below meth c H locs ls cells slots Q X hR hl hL hc hs hE
  obtain ⟨off, d, ht, rfl⟩ := hd
  exact lv_ifnull X.1 X.2.1 d (k G p l e s m args below meth c H locs ls cells slots Q X hR hl hL hc hs hE)
theorem r_ifnullN {t : Nat} (hd : pm_B E pc (fun z => .ifnull z) t q) (k : pm_V E t L st h b F) : pm_V E pc L (.null :: st) h b F := by
  intro G p l e s m args below meth c H locs ls cells slots Q X hR hl hL hc hs hE
  obtain ⟨off, d, ht, rfl⟩ := hd
  exact lv_ifnullN X.1 X.2.1 d ht (k G p l e s m args below meth c H locs ls cells slots Q X hR hl hL hc hs hE)
theorem r_ifnonnull {t x : Nat} (hd : pm_B E pc (fun z => .ifnonnull z) t q) (k : pm_V E t L st h b F) : pm_V E pc L (.ref x :: st) h b F := by
  intro G p l e s m args below meth c H locs ls cells slots Q X hR hl hL hc hs hE
  obtain ⟨off, d, ht, rfl⟩ := hd
  exact lv_ifnonnull X.1 X.2.1 d ht (k G p l e s m args below meth c H locs ls cells slots Q X hR hl hL hc hs hE)
theorem r_ifnonnullN {t : Nat} (hd : pm_B E pc (fun z => .ifnonnull z) t q) (k : pm_V E q L st h b F) : pm_V E pc L (.null :: st) h b F := by
  intro G p l e s m args below meth c H locs ls cells slots Q X hR hl hL hc hs hE
  obtain ⟨off, d, ht, rfl⟩ := hd
  exact lv_ifnonnullN X.1 X.2.1 d (k G p l e s m args below meth c H locs ls cells slots Q X hR hl hL hc hs hE)
theorem r_ret {v : Option Value} (hd : pm_D E pc 1 (pm_ri v) q) (hst : st = v.toList) (hok : pm_rok (pm_rt E) v) (hF : F v h) : pm_V E pc L st h b F := by
  intro G p l e s m args below meth c H locs ls cells slots Q X hR hl hL hc hs hE
  subst hst
  exact hE v h hF hok H locs cells slots pc ls hR hl (by omega) (by omega) hd.1
theorem r_ireturn {x : Int32} (hd : pm_D E pc 1 .ireturn q) (hok : ∃ ty, pm_rt E = some ty ∧ narrow ty (.int x) = .int x) (hF : F (some (.int x)) h) : pm_V E pc L [.int x] h b F := r_ret (v := some (.int x)) hd rfl hok hF
theorem r_lreturn {x : Int64} (hd : pm_D E pc 1 .lreturn q) (hok : pm_rt E = some .long) (hF : F (some (.long x)) h) : pm_V E pc L [.long x] h b F := r_ret (v := some (.long x)) hd rfl hok hF
theorem r_areturn {x n} (hd : pm_D E pc 1 .areturn q) (hok : pm_rt E = some (.object n)) (hF : F (some (.ref x)) h) : pm_V E pc L [.ref x] h b F := r_ret (v := some (.ref x)) hd rfl ⟨n, hok⟩ hF
theorem r_areturnN {n} (hd : pm_D E pc 1 .areturn q) (hok : pm_rt E = some (.object n)) (hF : F (some .null) h) : pm_V E pc L [.null] h b F := r_ret (v := some .null) hd rfl ⟨n, hok⟩ hF
theorem r_return (hd : pm_D E pc 1 .return_ q) (hok : pm_rt E = none) (hF : F none h) : pm_V E pc L [] h b F := r_ret (v := none) hd rfl hok hF
/-- a tableswitch: below, above, and each place -/
def pm_T (E : pm_E) (pc : Nat) (lo hi : Int) (d : Nat) (ts : List Nat) : Prop := ∃ (dflt : Int) (offs : Array Int) (len : Nat), decode (pm_cc E) pc = .ok (.tableswitch dflt lo hi offs, len) ∧ (pc : Int) + dflt = (d : Int) ∧ offs.toList.map (fun o => (pc : Int) + o) = ts.map (fun (t : Nat) => (t : Int))
theorem r_switch {x : Int32} {lo hi : Int} {d : Nat} {ts : List Nat} (hd : pm_T E pc lo hi d ts) (ko : (x.toInt < lo ∨ hi < x.toInt) → pm_V E d L st h b F) (ki : ∀ t, ¬ x.toInt < lo → ¬ hi < x.toInt → ts[(x.toInt - lo).toNat]? = some t → pm_V E t L st h b F) (hl9 : (hi - lo).toNat < ts.length) : pm_V E pc L (.int x :: st) h b F := by
  intro G p l e s m args below meth c H locs ls cells slots Q X hR hl hL hc hs hE
  obtain ⟨dflt, offs, len, d0, d1, d2⟩ := hd
  by_cases h1 : x.toInt < lo ∨ hi < x.toInt
  · exact lv_tableOut X.1 X.2.1 d0 h1 d1 (ko h1 G p l e s m args below meth c H locs ls cells slots Q X hR hl hL hc hs hE)
  · have h2 : ¬ x.toInt < lo := fun z => h1 (Or.inl z)
    have h3 : ¬ hi < x.toInt := fun z => h1 (Or.inr z)
    have hlt : (x.toInt - lo).toNat < ts.length := by omega
    have e1 : ts[(x.toInt - lo).toNat]? = some ts[(x.toInt - lo).toNat] := List.getElem?_eq_getElem hlt
    have hlen : offs.toList.length = ts.length := by
      have := congrArg List.length d2
      simpa using this
    have hlt2 : (x.toInt - lo).toNat < offs.toList.length := by omega
    have e2 : (pc : Int) + offs.toList[(x.toInt - lo).toNat] = ((ts[(x.toInt - lo).toNat] : Nat) : Int) := by
      have e3 := congrArg (fun z => z[(x.toInt - lo).toNat]?) d2
      simp only [List.getElem?_map, List.getElem?_eq_getElem hlt, List.getElem?_eq_getElem hlt2, Option.map_some, Option.some.injEq] at e3
      exact e3
    refine lv_tableIn X.1 X.2.1 d0 h2 h3 (off := offs.toList[(x.toInt - lo).toNat]) ?_ e2 (ki _ h2 h3 e1 G p l e s m args below meth c H locs ls cells slots Q X hR hl hL hc hs hE)
    rw [← Array.getElem?_toList]
    exact List.getElem?_eq_getElem hlt2
end PM
end
