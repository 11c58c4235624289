section
-- ===== PART A: goes FIRST, ahead of the names: the tables' words, and 'selects' of the private methods out of them =====
/-- a private method of a class that the tables say can be made, by its rows of tables_1 -/
def lw_okq (q : MethodName × Nat) : Prop := (q.1.cls ≠ "java/lang/invoke/MethodHandle" ∧ q.1.cls ≠ "java/lang/invoke/VarHandle") ∧ Cond.instantiable q.1.cls q.2 ∈ tables_1 ∧ Cond.privateMethod q.1 ∈ tables_1 ∧ Cond.instanceMethod q.1 ∈ tables_1
theorem lw_p0 : lw_okq (⟨"StalkRoom", "keep", "(LStalkRoom$Caster;)I"⟩, 15) := ⟨⟨by decide +kernel, by decide +kernel⟩, List.mem_of_getElem? (i := 17) (by decide +kernel), List.mem_of_getElem? (i := 183) (by decide +kernel), List.mem_of_getElem? (i := 184) (by decide +kernel)⟩
theorem lw_p1 : lw_okq (⟨"StalkRoom", "casterAt", "(I)LStalkRoom$Caster;"⟩, 15) := ⟨⟨by decide +kernel, by decide +kernel⟩, List.mem_of_getElem? (i := 17) (by decide +kernel), List.mem_of_getElem? (i := 235) (by decide +kernel), List.mem_of_getElem? (i := 236) (by decide +kernel)⟩
theorem lw_p2 : lw_okq (⟨"StalkRoom$Stalks", "rest", "(I)I"⟩, 3) := ⟨⟨by decide +kernel, by decide +kernel⟩, List.mem_of_getElem? (i := 194) (by decide +kernel), List.mem_of_getElem? (i := 269) (by decide +kernel), List.mem_of_getElem? (i := 270) (by decide +kernel)⟩
theorem lw_p3 : lw_okq (⟨"StalkRoom", "found", "(I)I"⟩, 15) := ⟨⟨by decide +kernel, by decide +kernel⟩, List.mem_of_getElem? (i := 17) (by decide +kernel), List.mem_of_getElem? (i := 301) (by decide +kernel), List.mem_of_getElem? (i := 302) (by decide +kernel)⟩
theorem lw_p4 : lw_okq (⟨"StalkRoom$Stalks", "partHeaps", "(LStalkRoom$Odds;)V"⟩, 3) := ⟨⟨by decide +kernel, by decide +kernel⟩, List.mem_of_getElem? (i := 194) (by decide +kernel), List.mem_of_getElem? (i := 363) (by decide +kernel), List.mem_of_getElem? (i := 364) (by decide +kernel)⟩
theorem lw_p5 : lw_okq (⟨"StalkRoom$Stalks", "sharesOf", "([J)J"⟩, 3) := ⟨⟨by decide +kernel, by decide +kernel⟩, List.mem_of_getElem? (i := 194) (by decide +kernel), List.mem_of_getElem? (i := 367) (by decide +kernel), List.mem_of_getElem? (i := 368) (by decide +kernel)⟩
theorem lw_p6 : lw_okq (⟨"StalkRoom$Stalks", "partHeap", "(IJ[J)V"⟩, 3) := ⟨⟨by decide +kernel, by decide +kernel⟩, List.mem_of_getElem? (i := 194) (by decide +kernel), List.mem_of_getElem? (i := 372) (by decide +kernel), List.mem_of_getElem? (i := 373) (by decide +kernel)⟩
theorem lw_p7 : lw_okq (⟨"StalkRoom", "tellFraction", "(JJ)V"⟩, 15) := ⟨⟨by decide +kernel, by decide +kernel⟩, List.mem_of_getElem? (i := 17) (by decide +kernel), List.mem_of_getElem? (i := 383) (by decide +kernel), List.mem_of_getElem? (i := 384) (by decide +kernel)⟩
theorem lw_p8 : lw_okq (⟨"StalkRoom", "figureAt", "(I)LStalkRoom$Figure;"⟩, 15) := ⟨⟨by decide +kernel, by decide +kernel⟩, List.mem_of_getElem? (i := 17) (by decide +kernel), List.mem_of_getElem? (i := 425) (by decide +kernel), List.mem_of_getElem? (i := 426) (by decide +kernel)⟩
theorem lw_p9 : lw_okq (⟨"StalkRoom$WayFinder", "meetAll", "(II)V"⟩, 5) := ⟨⟨by decide +kernel, by decide +kernel⟩, List.mem_of_getElem? (i := 45) (by decide +kernel), List.mem_of_getElem? (i := 484) (by decide +kernel), List.mem_of_getElem? (i := 485) (by decide +kernel)⟩
theorem lw_p10 : lw_okq (⟨"StalkRoom", "rowAt", "(I)LStalkRoom$ByteRow;"⟩, 15) := ⟨⟨by decide +kernel, by decide +kernel⟩, List.mem_of_getElem? (i := 17) (by decide +kernel), List.mem_of_getElem? (i := 513) (by decide +kernel), List.mem_of_getElem? (i := 514) (by decide +kernel)⟩
theorem lw_p11 : lw_okq (⟨"StalkRoom$ByteRow", "isMisfit", "(II)Z"⟩, 2) := ⟨⟨by decide +kernel, by decide +kernel⟩, List.mem_of_getElem? (i := 104) (by decide +kernel), List.mem_of_getElem? (i := 556) (by decide +kernel), List.mem_of_getElem? (i := 557) (by decide +kernel)⟩
theorem lw_p12 : lw_okq (⟨"StalkRoom$ByteRow", "isMisfitPair", "(I)Z"⟩, 2) := ⟨⟨by decide +kernel, by decide +kernel⟩, List.mem_of_getElem? (i := 104) (by decide +kernel), List.mem_of_getElem? (i := 560) (by decide +kernel), List.mem_of_getElem? (i := 561) (by decide +kernel)⟩
theorem lw_p13 : lw_okq (⟨"StalkRoom$ByteRow", "isMendedBy", "(III)Z"⟩, 2) := ⟨⟨by decide +kernel, by decide +kernel⟩, List.mem_of_getElem? (i := 104) (by decide +kernel), List.mem_of_getElem? (i := 595) (by decide +kernel), List.mem_of_getElem? (i := 596) (by decide +kernel)⟩
theorem lw_p14 : lw_okq (⟨"StalkRoom$ByteRow", "changePlaces", "(II)V"⟩, 2) := ⟨⟨by decide +kernel, by decide +kernel⟩, List.mem_of_getElem? (i := 104) (by decide +kernel), List.mem_of_getElem? (i := 599) (by decide +kernel), List.mem_of_getElem? (i := 600) (by decide +kernel)⟩
theorem lw_p15 : lw_okq (⟨"StalkRoom", "weighedDiffer", "()I"⟩, 15) := ⟨⟨by decide +kernel, by decide +kernel⟩, List.mem_of_getElem? (i := 17) (by decide +kernel), List.mem_of_getElem? (i := 617) (by decide +kernel), List.mem_of_getElem? (i := 618) (by decide +kernel)⟩
def lw_privs_1 : List (MethodName × Nat) := [(⟨"StalkRoom", "keep", "(LStalkRoom$Caster;)I"⟩, 15), (⟨"StalkRoom", "casterAt", "(I)LStalkRoom$Caster;"⟩, 15), (⟨"StalkRoom$Stalks", "rest", "(I)I"⟩, 3), (⟨"StalkRoom", "found", "(I)I"⟩, 15), (⟨"StalkRoom$Stalks", "partHeaps", "(LStalkRoom$Odds;)V"⟩, 3), (⟨"StalkRoom$Stalks", "sharesOf", "([J)J"⟩, 3), (⟨"StalkRoom$Stalks", "partHeap", "(IJ[J)V"⟩, 3), (⟨"StalkRoom", "tellFraction", "(JJ)V"⟩, 15), (⟨"StalkRoom", "figureAt", "(I)LStalkRoom$Figure;"⟩, 15), (⟨"StalkRoom$WayFinder", "meetAll", "(II)V"⟩, 5), (⟨"StalkRoom", "rowAt", "(I)LStalkRoom$ByteRow;"⟩, 15), (⟨"StalkRoom$ByteRow", "isMisfit", "(II)Z"⟩, 2), (⟨"StalkRoom$ByteRow", "isMisfitPair", "(I)Z"⟩, 2), (⟨"StalkRoom$ByteRow", "isMendedBy", "(III)Z"⟩, 2), (⟨"StalkRoom$ByteRow", "changePlaces", "(II)V"⟩, 2), (⟨"StalkRoom", "weighedDiffer", "()I"⟩, 15)]
theorem lw_r1 : ∀ q ∈ lw_privs_1, lw_okq q := List.forall_mem_cons.mpr ⟨lw_p0, List.forall_mem_cons.mpr ⟨lw_p1, List.forall_mem_cons.mpr ⟨lw_p2, List.forall_mem_cons.mpr ⟨lw_p3, List.forall_mem_cons.mpr ⟨lw_p4, List.forall_mem_cons.mpr ⟨lw_p5, List.forall_mem_cons.mpr ⟨lw_p6, List.forall_mem_cons.mpr ⟨lw_p7, List.forall_mem_cons.mpr ⟨lw_p8, List.forall_mem_cons.mpr ⟨lw_p9, List.forall_mem_cons.mpr ⟨lw_p10, List.forall_mem_cons.mpr ⟨lw_p11, List.forall_mem_cons.mpr ⟨lw_p12, List.forall_mem_cons.mpr ⟨lw_p13, List.forall_mem_cons.mpr ⟨lw_p14, List.forall_mem_cons.mpr ⟨lw_p15, fun _ h => absurd h List.not_mem_nil⟩⟩⟩⟩⟩⟩⟩⟩⟩⟩⟩⟩⟩⟩⟩⟩
theorem lw_p16 : lw_okq (⟨"StalkRoom", "rowsThere", "()I"⟩, 15) := ⟨⟨by decide +kernel, by decide +kernel⟩, List.mem_of_getElem? (i := 17) (by decide +kernel), List.mem_of_getElem? (i := 660) (by decide +kernel), List.mem_of_getElem? (i := 661) (by decide +kernel)⟩
theorem lw_p17 : lw_okq (⟨"StalkRoom", "oldLinesOfAll", "()I"⟩, 15) := ⟨⟨by decide +kernel, by decide +kernel⟩, List.mem_of_getElem? (i := 17) (by decide +kernel), List.mem_of_getElem? (i := 664) (by decide +kernel), List.mem_of_getElem? (i := 665) (by decide +kernel)⟩
theorem lw_p18 : lw_okq (⟨"StalkRoomModel", "put", "(IIIZII)I"⟩, 33) := ⟨⟨by decide +kernel, by decide +kernel⟩, List.mem_of_getElem? (i := 682) (by decide +kernel), List.mem_of_getElem? (i := 793) (by decide +kernel), List.mem_of_getElem? (i := 794) (by decide +kernel)⟩
theorem lw_p19 : lw_okq (⟨"StalkRoomModel", "isCaster", "(I)Z"⟩, 33) := ⟨⟨by decide +kernel, by decide +kernel⟩, List.mem_of_getElem? (i := 682) (by decide +kernel), List.mem_of_getElem? (i := 815) (by decide +kernel), List.mem_of_getElem? (i := 816) (by decide +kernel)⟩
theorem lw_p20 : lw_okq (⟨"StalkRoomModel", "tells", "(II)I"⟩, 33) := ⟨⟨by decide +kernel, by decide +kernel⟩, List.mem_of_getElem? (i := 682) (by decide +kernel), List.mem_of_getElem? (i := 819) (by decide +kernel), List.mem_of_getElem? (i := 820) (by decide +kernel)⟩
theorem lw_p21 : lw_okq (⟨"StalkRoomModel", "parts", "(I)Z"⟩, 33) := ⟨⟨by decide +kernel, by decide +kernel⟩, List.mem_of_getElem? (i := 682) (by decide +kernel), List.mem_of_getElem? (i := 823) (by decide +kernel), List.mem_of_getElem? (i := 824) (by decide +kernel)⟩
theorem lw_p22 : lw_okq (⟨"StalkRoomModel", "meets", "(I)I"⟩, 33) := ⟨⟨by decide +kernel, by decide +kernel⟩, List.mem_of_getElem? (i := 682) (by decide +kernel), List.mem_of_getElem? (i := 831) (by decide +kernel), List.mem_of_getElem? (i := 832) (by decide +kernel)⟩
theorem lw_p23 : lw_okq (⟨"StalkRoomModel", "left", "(III)I"⟩, 33) := ⟨⟨by decide +kernel, by decide +kernel⟩, List.mem_of_getElem? (i := 682) (by decide +kernel), List.mem_of_getElem? (i := 835) (by decide +kernel), List.mem_of_getElem? (i := 836) (by decide +kernel)⟩
theorem lw_p24 : lw_okq (⟨"StalkRoomModel", "places", "(II)I"⟩, 33) := ⟨⟨by decide +kernel, by decide +kernel⟩, List.mem_of_getElem? (i := 682) (by decide +kernel), List.mem_of_getElem? (i := 842) (by decide +kernel), List.mem_of_getElem? (i := 843) (by decide +kernel)⟩
theorem lw_p25 : lw_okq (⟨"StalkRoomModel", "first", "(II)I"⟩, 33) := ⟨⟨by decide +kernel, by decide +kernel⟩, List.mem_of_getElem? (i := 682) (by decide +kernel), List.mem_of_getElem? (i := 846) (by decide +kernel), List.mem_of_getElem? (i := 847) (by decide +kernel)⟩
theorem lw_p26 : lw_okq (⟨"StalkRoomModel", "setOdds", "(I)V"⟩, 33) := ⟨⟨by decide +kernel, by decide +kernel⟩, List.mem_of_getElem? (i := 682) (by decide +kernel), List.mem_of_getElem? (i := 862) (by decide +kernel), List.mem_of_getElem? (i := 863) (by decide +kernel)⟩
theorem lw_p27 : lw_okq (⟨"StalkRoomModel", "clearOdds", "()V"⟩, 33) := ⟨⟨by decide +kernel, by decide +kernel⟩, List.mem_of_getElem? (i := 682) (by decide +kernel), List.mem_of_getElem? (i := 866) (by decide +kernel), List.mem_of_getElem? (i := 867) (by decide +kernel)⟩
theorem lw_p28 : lw_okq (⟨"StalkRoomModel", "partAll", "(I)V"⟩, 33) := ⟨⟨by decide +kernel, by decide +kernel⟩, List.mem_of_getElem? (i := 682) (by decide +kernel), List.mem_of_getElem? (i := 872) (by decide +kernel), List.mem_of_getElem? (i := 873) (by decide +kernel)⟩
theorem lw_p29 : lw_okq (⟨"StalkRoomModel", "add", "(JJJJ)V"⟩, 33) := ⟨⟨by decide +kernel, by decide +kernel⟩, List.mem_of_getElem? (i := 682) (by decide +kernel), List.mem_of_getElem? (i := 879) (by decide +kernel), List.mem_of_getElem? (i := 880) (by decide +kernel)⟩
theorem lw_p30 : lw_okq (⟨"StalkRoomModel", "tell", "(JJ)I"⟩, 33) := ⟨⟨by decide +kernel, by decide +kernel⟩, List.mem_of_getElem? (i := 682) (by decide +kernel), List.mem_of_getElem? (i := 883) (by decide +kernel), List.mem_of_getElem? (i := 884) (by decide +kernel)⟩
theorem lw_p31 : lw_okq (⟨"StalkRoomModel", "draws", "(I)I"⟩, 33) := ⟨⟨by decide +kernel, by decide +kernel⟩, List.mem_of_getElem? (i := 682) (by decide +kernel), List.mem_of_getElem? (i := 895) (by decide +kernel), List.mem_of_getElem? (i := 896) (by decide +kernel)⟩
def lw_privs_2 : List (MethodName × Nat) := [(⟨"StalkRoom", "rowsThere", "()I"⟩, 15), (⟨"StalkRoom", "oldLinesOfAll", "()I"⟩, 15), (⟨"StalkRoomModel", "put", "(IIIZII)I"⟩, 33), (⟨"StalkRoomModel", "isCaster", "(I)Z"⟩, 33), (⟨"StalkRoomModel", "tells", "(II)I"⟩, 33), (⟨"StalkRoomModel", "parts", "(I)Z"⟩, 33), (⟨"StalkRoomModel", "meets", "(I)I"⟩, 33), (⟨"StalkRoomModel", "left", "(III)I"⟩, 33), (⟨"StalkRoomModel", "places", "(II)I"⟩, 33), (⟨"StalkRoomModel", "first", "(II)I"⟩, 33), (⟨"StalkRoomModel", "setOdds", "(I)V"⟩, 33), (⟨"StalkRoomModel", "clearOdds", "()V"⟩, 33), (⟨"StalkRoomModel", "partAll", "(I)V"⟩, 33), (⟨"StalkRoomModel", "add", "(JJJJ)V"⟩, 33), (⟨"StalkRoomModel", "tell", "(JJ)I"⟩, 33), (⟨"StalkRoomModel", "draws", "(I)I"⟩, 33)]
theorem lw_r2 : ∀ q ∈ lw_privs_2, lw_okq q := List.forall_mem_cons.mpr ⟨lw_p16, List.forall_mem_cons.mpr ⟨lw_p17, List.forall_mem_cons.mpr ⟨lw_p18, List.forall_mem_cons.mpr ⟨lw_p19, List.forall_mem_cons.mpr ⟨lw_p20, List.forall_mem_cons.mpr ⟨lw_p21, List.forall_mem_cons.mpr ⟨lw_p22, List.forall_mem_cons.mpr ⟨lw_p23, List.forall_mem_cons.mpr ⟨lw_p24, List.forall_mem_cons.mpr ⟨lw_p25, List.forall_mem_cons.mpr ⟨lw_p26, List.forall_mem_cons.mpr ⟨lw_p27, List.forall_mem_cons.mpr ⟨lw_p28, List.forall_mem_cons.mpr ⟨lw_p29, List.forall_mem_cons.mpr ⟨lw_p30, List.forall_mem_cons.mpr ⟨lw_p31, fun _ h => absurd h List.not_mem_nil⟩⟩⟩⟩⟩⟩⟩⟩⟩⟩⟩⟩⟩⟩⟩⟩
theorem lw_p32 : lw_okq (⟨"StalkRoomModel", "under", "(I)I"⟩, 33) := ⟨⟨by decide +kernel, by decide +kernel⟩, List.mem_of_getElem? (i := 682) (by decide +kernel), List.mem_of_getElem? (i := 899) (by decide +kernel), List.mem_of_getElem? (i := 900) (by decide +kernel)⟩
theorem lw_p33 : lw_okq (⟨"StalkRoomModel", "numberOf", "(I)I"⟩, 33) := ⟨⟨by decide +kernel, by decide +kernel⟩, List.mem_of_getElem? (i := 682) (by decide +kernel), List.mem_of_getElem? (i := 924) (by decide +kernel), List.mem_of_getElem? (i := 925) (by decide +kernel)⟩
theorem lw_p34 : lw_okq (⟨"StalkRoomModel", "looked", "(I)I"⟩, 33) := ⟨⟨by decide +kernel, by decide +kernel⟩, List.mem_of_getElem? (i := 682) (by decide +kernel), List.mem_of_getElem? (i := 960) (by decide +kernel), List.mem_of_getElem? (i := 961) (by decide +kernel)⟩
theorem lw_p35 : lw_okq (⟨"StalkRoomModel", "misfitsOf", "(II)I"⟩, 33) := ⟨⟨by decide +kernel, by decide +kernel⟩, List.mem_of_getElem? (i := 682) (by decide +kernel), List.mem_of_getElem? (i := 976) (by decide +kernel), List.mem_of_getElem? (i := 977) (by decide +kernel)⟩
theorem lw_p36 : lw_okq (⟨"StalkRoomModel", "leaf", "(II)I"⟩, 33) := ⟨⟨by decide +kernel, by decide +kernel⟩, List.mem_of_getElem? (i := 682) (by decide +kernel), List.mem_of_getElem? (i := 980) (by decide +kernel), List.mem_of_getElem? (i := 981) (by decide +kernel)⟩
theorem lw_p37 : lw_okq (⟨"StalkRoomModel", "swap", "(III)V"⟩, 33) := ⟨⟨by decide +kernel, by decide +kernel⟩, List.mem_of_getElem? (i := 682) (by decide +kernel), List.mem_of_getElem? (i := 997) (by decide +kernel), List.mem_of_getElem? (i := 998) (by decide +kernel)⟩
theorem lw_p38 : lw_okq (⟨"StalkRoomModel", "counts", "(I)Z"⟩, 33) := ⟨⟨by decide +kernel, by decide +kernel⟩, List.mem_of_getElem? (i := 682) (by decide +kernel), List.mem_of_getElem? (i := 1009) (by decide +kernel), List.mem_of_getElem? (i := 1010) (by decide +kernel)⟩
theorem lw_p39 : lw_okq (⟨"StalkRoomModel", "offOf", "(I)I"⟩, 33) := ⟨⟨by decide +kernel, by decide +kernel⟩, List.mem_of_getElem? (i := 682) (by decide +kernel), List.mem_of_getElem? (i := 1013) (by decide +kernel), List.mem_of_getElem? (i := 1014) (by decide +kernel)⟩
theorem lw_p40 : lw_okq (⟨"StalkRoomModel", "setShares", "(I)V"⟩, 33) := ⟨⟨by decide +kernel, by decide +kernel⟩, List.mem_of_getElem? (i := 682) (by decide +kernel), List.mem_of_getElem? (i := 1017) (by decide +kernel), List.mem_of_getElem? (i := 1018) (by decide +kernel)⟩
def lw_privs_3 : List (MethodName × Nat) := [(⟨"StalkRoomModel", "under", "(I)I"⟩, 33), (⟨"StalkRoomModel", "numberOf", "(I)I"⟩, 33), (⟨"StalkRoomModel", "looked", "(I)I"⟩, 33), (⟨"StalkRoomModel", "misfitsOf", "(II)I"⟩, 33), (⟨"StalkRoomModel", "leaf", "(II)I"⟩, 33), (⟨"StalkRoomModel", "swap", "(III)V"⟩, 33), (⟨"StalkRoomModel", "counts", "(I)Z"⟩, 33), (⟨"StalkRoomModel", "offOf", "(I)I"⟩, 33), (⟨"StalkRoomModel", "setShares", "(I)V"⟩, 33)]
theorem lw_r3 : ∀ q ∈ lw_privs_3, lw_okq q := List.forall_mem_cons.mpr ⟨lw_p32, List.forall_mem_cons.mpr ⟨lw_p33, List.forall_mem_cons.mpr ⟨lw_p34, List.forall_mem_cons.mpr ⟨lw_p35, List.forall_mem_cons.mpr ⟨lw_p36, List.forall_mem_cons.mpr ⟨lw_p37, List.forall_mem_cons.mpr ⟨lw_p38, List.forall_mem_cons.mpr ⟨lw_p39, List.forall_mem_cons.mpr ⟨lw_p40, fun _ h => absurd h List.not_mem_nil⟩⟩⟩⟩⟩⟩⟩⟩⟩
def lw_privs : List (MethodName × Nat) := lw_privs_1 ++ (lw_privs_2 ++ (lw_privs_3))
def lw_tbl : List Cond := k2_sels lw_privs ++ tables_1
theorem lw_privs_ok : ∀ q ∈ lw_privs, lw_okq q := by
  show ∀ q ∈ lw_privs_1 ++ (lw_privs_2 ++ (lw_privs_3)), lw_okq q
  exact List.forall_mem_append.mpr ⟨lw_r1, List.forall_mem_append.mpr ⟨lw_r2, lw_r3⟩⟩
end
section
def RX0 : String := "StalkRoom$ByteRow"
def TX0 : u_T := fun k => match k with
  | 0 => ("StalkRoom$ByteRow", "bytes", "[B", true)
  | _ => ("StalkRoom$ByteRow", "size", "I", false)
def tyX0 : Nat → FieldType := fun k => match k with
  | 0 => .array .byte
  | _ => .int
theorem nmX0 : ∀ a, a < 2 → ∀ b, b < 2 → a ≠ b → (TX0 a).2.1 ≠ (TX0 b).2.1 := by decide +kernel
theorem tyX0_ok : ∀ k, k < 2 → parseFieldDescriptor (TX0 k).2.2.1 = some (tyX0 k) := by decide +kernel
abbrev cX0_init : ByteArray := prog_2_method_1_code
def yX0_init : MethodName := ⟨RX0, "<init>", "()V"⟩
abbrev cX0_isThere : ByteArray := prog_2_method_2_code
def yX0_isThere : MethodName := ⟨RX0, "isThere", "()Z"⟩
abbrev cX0_begin : ByteArray := prog_2_method_3_code
def yX0_begin : MethodName := ⟨RX0, "begin", "(I)V"⟩
abbrev cX0_hasBytes : ByteArray := prog_2_method_4_code
def yX0_hasBytes : MethodName := ⟨RX0, "hasBytes", "(II)Z"⟩
abbrev cX0_misfitsIn : ByteArray := prog_2_method_5_code
def yX0_misfitsIn : MethodName := ⟨RX0, "misfitsIn", "(I)I"⟩
abbrev cX0_numbersThere : ByteArray := prog_2_method_6_code
def yX0_numbersThere : MethodName := ⟨RX0, "numbersThere", "()J"⟩
abbrev cX0_mendingSwap : ByteArray := prog_2_method_7_code
def yX0_mendingSwap : MethodName := ⟨RX0, "mendingSwap", "(I)I"⟩
abbrev cX0_partsInto : ByteArray := prog_2_method_8_code
def yX0_partsInto : MethodName := ⟨RX0, "partsInto", "([I)Z"⟩
abbrev cX0_isMendedBy : ByteArray := prog_2_method_9_code
def yX0_isMendedBy : MethodName := ⟨RX0, "isMendedBy", "(III)Z"⟩
abbrev cX0_changePlaces : ByteArray := prog_2_method_10_code
def yX0_changePlaces : MethodName := ⟨RX0, "changePlaces", "(II)V"⟩
abbrev cX0_isMisfit : ByteArray := prog_2_method_11_code
def yX0_isMisfit : MethodName := ⟨RX0, "isMisfit", "(II)Z"⟩
abbrev cX0_isMisfitPair : ByteArray := prog_2_method_12_code
def yX0_isMisfitPair : MethodName := ⟨RX0, "isMisfitPair", "(I)Z"⟩
def RX1 : String := "StalkRoom$Caster"
def TX1 : u_T := fun k => match k with
  | _ => ("", "", "", false)
def tyX1 : Nat → FieldType := fun k => match k with
  | _ => .int
theorem nmX1 : ∀ a, a < 0 → ∀ b, b < 0 → a ≠ b → (TX1 a).2.1 ≠ (TX1 b).2.1 := by decide +kernel
theorem tyX1_ok : ∀ k, k < 0 → parseFieldDescriptor (TX1 k).2.2.1 = some (tyX1 k) := by decide +kernel
abbrev cX1_init : ByteArray := prog_3_method_1_code
def yX1_init : MethodName := ⟨RX1, "<init>", "()V"⟩
abbrev cX1_tell : ByteArray := prog_3_method_2_code
def yX1_tell : MethodName := ⟨RX1, "tell", "(I)I"⟩
abbrev cX1_castLine : ByteArray := prog_3_method_3_code
def yX1_castLine : MethodName := ⟨RX1, "castLine", "(LStalkRoom$Seed;)I"⟩
abbrev cX1_weigh : ByteArray := prog_3_method_4_code
def yX1_weigh : MethodName := ⟨RX1, "weigh", "(LStalkRoom$Odds;)V"⟩
def RX2 : String := "StalkRoom$Coins"
def TX2 : u_T := fun k => match k with
  | _ => ("", "", "", false)
def tyX2 : Nat → FieldType := fun k => match k with
  | _ => .int
theorem nmX2 : ∀ a, a < 0 → ∀ b, b < 0 → a ≠ b → (TX2 a).2.1 ≠ (TX2 b).2.1 := by decide +kernel
theorem tyX2_ok : ∀ k, k < 0 → parseFieldDescriptor (TX2 k).2.2.1 = some (tyX2 k) := by decide +kernel
abbrev cX2_init : ByteArray := prog_4_method_1_code
def yX2_init : MethodName := ⟨RX2, "<init>", "()V"⟩
abbrev cX2_tell : ByteArray := prog_4_method_2_code
def yX2_tell : MethodName := ⟨RX2, "tell", "(I)I"⟩
abbrev cX2_castLine : ByteArray := prog_4_method_3_code
def yX2_castLine : MethodName := ⟨RX2, "castLine", "(LStalkRoom$Seed;)I"⟩
abbrev cX2_weigh : ByteArray := prog_4_method_4_code
def yX2_weigh : MethodName := ⟨RX2, "weigh", "(LStalkRoom$Odds;)V"⟩
def RX3 : String := "StalkRoom$Figure"
def TX3 : u_T := fun k => match k with
  | _ => ("StalkRoom$Figure", "lines", "[I", true)
def tyX3 : Nat → FieldType := fun k => match k with
  | _ => .array .int
theorem nmX3 : ∀ a, a < 1 → ∀ b, b < 1 → a ≠ b → (TX3 a).2.1 ≠ (TX3 b).2.1 := by decide +kernel
theorem tyX3_ok : ∀ k, k < 1 → parseFieldDescriptor (TX3 k).2.2.1 = some (tyX3 k) := by decide +kernel
abbrev cX3_init : ByteArray := prog_5_method_1_code
def yX3_init : MethodName := ⟨RX3, "<init>", "()V"⟩
abbrev cX3_bits : ByteArray := prog_5_method_2_code
def yX3_bits : MethodName := ⟨RX3, "bits", "()I"⟩
abbrev cX3_oldLines : ByteArray := prog_5_method_3_code
def yX3_oldLines : MethodName := ⟨RX3, "oldLines", "()I"⟩
abbrev cX3_become : ByteArray := prog_5_method_4_code
def yX3_become : MethodName := ⟨RX3, "become", "(LStalkRoom$Figure;)V"⟩
abbrev cX3_castBy : ByteArray := prog_5_method_5_code
def yX3_castBy : MethodName := ⟨RX3, "castBy", "(LStalkRoom$Caster;LStalkRoom$Seed;)Z"⟩
abbrev cX3_becomeAfter : ByteArray := prog_5_method_6_code
def yX3_becomeAfter : MethodName := ⟨RX3, "becomeAfter", "(ILStalkRoom$Figure;)V"⟩
abbrev cX3_changed : ByteArray := prog_5_method_7_code
def yX3_changed : MethodName := ⟨RX3, "changed", "(I)I"⟩
def RX4 : String := "StalkRoom$Odds"
def TX4 : u_T := fun k => match k with
  | 0 => ("StalkRoom$Odds", "weights", "[J", true)
  | 1 => ("StalkRoom$Odds", "heaps", "[J", true)
  | 2 => ("StalkRoom$Odds", "nextHeaps", "[J", true)
  | _ => ("StalkRoom$Odds", "all", "J", false)
def tyX4 : Nat → FieldType := fun k => match k with
  | 0 => .array .long
  | 1 => .array .long
  | 2 => .array .long
  | _ => .long
theorem nmX4 : ∀ a, a < 4 → ∀ b, b < 4 → a ≠ b → (TX4 a).2.1 ≠ (TX4 b).2.1 := by decide +kernel
theorem tyX4_ok : ∀ k, k < 4 → parseFieldDescriptor (TX4 k).2.2.1 = some (tyX4 k) := by decide +kernel
abbrev cX4_init : ByteArray := prog_6_method_1_code
def yX4_init : MethodName := ⟨RX4, "<init>", "()V"⟩
abbrev cX4_begin : ByteArray := prog_6_method_2_code
def yX4_begin : MethodName := ⟨RX4, "begin", "(J)V"⟩
abbrev cX4_beginBundle : ByteArray := prog_6_method_3_code
def yX4_beginBundle : MethodName := ⟨RX4, "beginBundle", "(I)V"⟩
abbrev cX4_partsInto : ByteArray := prog_6_method_4_code
def yX4_partsInto : MethodName := ⟨RX4, "partsInto", "([I)V"⟩
def RX5 : String := "StalkRoom$Seed"
def TX5 : u_T := fun k => match k with
  | _ => ("StalkRoom$Seed", "s", "J", false)
def tyX5 : Nat → FieldType := fun k => match k with
  | _ => .long
theorem nmX5 : ∀ a, a < 1 → ∀ b, b < 1 → a ≠ b → (TX5 a).2.1 ≠ (TX5 b).2.1 := by decide +kernel
theorem tyX5_ok : ∀ k, k < 1 → parseFieldDescriptor (TX5 k).2.2.1 = some (tyX5 k) := by decide +kernel
abbrev cX5_init : ByteArray := prog_7_method_1_code
def yX5_init : MethodName := ⟨RX5, "<init>", "()V"⟩
abbrev cX5_begin : ByteArray := prog_7_method_2_code
def yX5_begin : MethodName := ⟨RX5, "begin", "(J)V"⟩
abbrev cX5_nextBelow : ByteArray := prog_7_method_3_code
def yX5_nextBelow : MethodName := ⟨RX5, "nextBelow", "(I)I"⟩
def RX6 : String := "StalkRoom$Stalks"
def TX6 : u_T := fun k => match k with
  | 0 => ("StalkRoom$Stalks", "bundle", "I", true)
  | 1 => ("StalkRoom$Stalks", "by", "I", true)
  | _ => ("StalkRoom$Stalks", "fingers", "I", true)
def tyX6 : Nat → FieldType := fun k => match k with
  | 0 => .int
  | 1 => .int
  | _ => .int
theorem nmX6 : ∀ a, a < 3 → ∀ b, b < 3 → a ≠ b → (TX6 a).2.1 ≠ (TX6 b).2.1 := by decide +kernel
theorem tyX6_ok : ∀ k, k < 3 → parseFieldDescriptor (TX6 k).2.2.1 = some (tyX6 k) := by decide +kernel
abbrev cX6_init : ByteArray := prog_8_method_1_code
def yX6_init : MethodName := ⟨RX6, "<init>", "(IIZ)V"⟩
abbrev cX6_tell : ByteArray := prog_8_method_2_code
def yX6_tell : MethodName := ⟨RX6, "tell", "(I)I"⟩
abbrev cX6_kind : ByteArray := prog_8_method_3_code
def yX6_kind : MethodName := ⟨RX6, "kind", "()I"⟩
abbrev cX6_firstPlace : ByteArray := prog_8_method_4_code
def yX6_firstPlace : MethodName := ⟨RX6, "firstPlace", "(I)I"⟩
abbrev cX6_lastPlace : ByteArray := prog_8_method_5_code
def yX6_lastPlace : MethodName := ⟨RX6, "lastPlace", "(I)I"⟩
abbrev cX6_placesOf : ByteArray := prog_8_method_6_code
def yX6_placesOf : MethodName := ⟨RX6, "placesOf", "(I)I"⟩
abbrev cX6_placesAtFirst : ByteArray := prog_8_method_7_code
def yX6_placesAtFirst : MethodName := ⟨RX6, "placesAtFirst", "()I"⟩
abbrev cX6_lineOf : ByteArray := prog_8_method_8_code
def yX6_lineOf : MethodName := ⟨RX6, "lineOf", "(I)I"⟩
abbrev cX6_leftOf : ByteArray := prog_8_method_9_code
def yX6_leftOf : MethodName := ⟨RX6, "leftOf", "(II)I"⟩
abbrev cX6_partedAt : ByteArray := prog_8_method_10_code
def yX6_partedAt : MethodName := ⟨RX6, "partedAt", "(II)I"⟩
abbrev cX6_castLine : ByteArray := prog_8_method_11_code
def yX6_castLine : MethodName := ⟨RX6, "castLine", "(LStalkRoom$Seed;)I"⟩
abbrev cX6_weigh : ByteArray := prog_8_method_12_code
def yX6_weigh : MethodName := ⟨RX6, "weigh", "(LStalkRoom$Odds;)V"⟩
abbrev cX6_weighBundle : ByteArray := prog_8_method_13_code
def yX6_weighBundle : MethodName := ⟨RX6, "weighBundle", "(ILStalkRoom$Odds;)V"⟩
abbrev cX6_partHeaps : ByteArray := prog_8_method_14_code
def yX6_partHeaps : MethodName := ⟨RX6, "partHeaps", "(LStalkRoom$Odds;)V"⟩
abbrev cX6_sharesOf : ByteArray := prog_8_method_15_code
def yX6_sharesOf : MethodName := ⟨RX6, "sharesOf", "([J)J"⟩
abbrev cX6_partHeap : ByteArray := prog_8_method_16_code
def yX6_partHeap : MethodName := ⟨RX6, "partHeap", "(IJ[J)V"⟩
abbrev cX6_rest : ByteArray := prog_8_method_17_code
def yX6_rest : MethodName := ⟨RX6, "rest", "(I)I"⟩
def RX7 : String := "StalkRoom$Thumb"
def TX7 : u_T := fun k => match k with
  | 0 => ("StalkRoom$Stalks", "bundle", "I", true)
  | 1 => ("StalkRoom$Stalks", "by", "I", true)
  | 2 => ("StalkRoom$Stalks", "fingers", "I", true)
  | 3 => ("StalkRoom$Thumb", "lo", "I", true)
  | _ => ("StalkRoom$Thumb", "hi", "I", true)
def tyX7 : Nat → FieldType := fun k => match k with
  | 0 => .int
  | 1 => .int
  | 2 => .int
  | 3 => .int
  | _ => .int
theorem nmX7 : ∀ a, a < 5 → ∀ b, b < 5 → a ≠ b → (TX7 a).2.1 ≠ (TX7 b).2.1 := by decide +kernel
theorem tyX7_ok : ∀ k, k < 5 → parseFieldDescriptor (TX7 k).2.2.1 = some (tyX7 k) := by decide +kernel
abbrev cX7_init : ByteArray := prog_9_method_1_code
def yX7_init : MethodName := ⟨RX7, "<init>", "(IIZII)V"⟩
abbrev cX7_kind : ByteArray := prog_9_method_2_code
def yX7_kind : MethodName := ⟨RX7, "kind", "()I"⟩
abbrev cX7_firstPlace : ByteArray := prog_9_method_3_code
def yX7_firstPlace : MethodName := ⟨RX7, "firstPlace", "(I)I"⟩
abbrev cX7_lastPlace : ByteArray := prog_9_method_4_code
def yX7_lastPlace : MethodName := ⟨RX7, "lastPlace", "(I)I"⟩
def RX8 : String := "StalkRoom$WayFinder"
def TX8 : u_T := fun k => match k with
  | 0 => ("StalkRoom$WayFinder", "waiting", "[I", true)
  | 1 => ("StalkRoom$WayFinder", "before", "[I", true)
  | 2 => ("StalkRoom$WayFinder", "metBy", "[I", true)
  | 3 => ("StalkRoom$WayFinder", "acts", "[I", true)
  | _ => ("StalkRoom$WayFinder", "actCount", "I", false)
def tyX8 : Nat → FieldType := fun k => match k with
  | 0 => .array .int
  | 1 => .array .int
  | 2 => .array .int
  | 3 => .array .int
  | _ => .int
theorem nmX8 : ∀ a, a < 5 → ∀ b, b < 5 → a ≠ b → (TX8 a).2.1 ≠ (TX8 b).2.1 := by decide +kernel
theorem tyX8_ok : ∀ k, k < 5 → parseFieldDescriptor (TX8 k).2.2.1 = some (tyX8 k) := by decide +kernel
abbrev cX8_init : ByteArray := prog_10_method_1_code
def yX8_init : MethodName := ⟨RX8, "<init>", "()V"⟩
abbrev cX8_find : ByteArray := prog_10_method_2_code
def yX8_find : MethodName := ⟨RX8, "find", "(III)I"⟩
abbrev cX8_actAt : ByteArray := prog_10_method_3_code
def yX8_actAt : MethodName := ⟨RX8, "actAt", "(I)I"⟩
abbrev cX8_meetAll : ByteArray := prog_10_method_4_code
def yX8_meetAll : MethodName := ⟨RX8, "meetAll", "(II)V"⟩
abbrev cX8_after : ByteArray := prog_10_method_5_code
def yX8_after : MethodName := ⟨RX8, "after", "(II)I"⟩
def RX9 : String := "StalkRoom"
def TX9 : u_T := fun k => match k with
  | 0 => ("StalkRoom", "casters", "[LStalkRoom$Caster;", true)
  | 1 => ("StalkRoom", "casterCount", "I", false)
  | 2 => ("StalkRoom", "figures", "[LStalkRoom$Figure;", true)
  | 3 => ("StalkRoom", "spare", "LStalkRoom$Figure;", true)
  | 4 => ("StalkRoom", "rows", "[LStalkRoom$ByteRow;", true)
  | 5 => ("StalkRoom", "finder", "LStalkRoom$WayFinder;", true)
  | 6 => ("StalkRoom", "seed", "LStalkRoom$Seed;", true)
  | 7 => ("StalkRoom", "odds", "LStalkRoom$Odds;", true)
  | 8 => ("StalkRoom", "parts", "[I", true)
  | 9 => ("StalkRoom", "otherParts", "[I", true)
  | 10 => ("StalkRoom", "findingTimes", "[I", true)
  | 11 => ("StalkRoom", "latestFinding", "I", false)
  | 12 => ("StalkRoom", "lastAsked", "J", false)
  | 13 => ("StalkRoom", "fractionUpper", "J", false)
  | _ => ("StalkRoom", "fractionLower", "J", false)
def tyX9 : Nat → FieldType := fun k => match k with
  | 0 => .array (.object "StalkRoom$Caster")
  | 1 => .int
  | 2 => .array (.object "StalkRoom$Figure")
  | 3 => .object "StalkRoom$Figure"
  | 4 => .array (.object "StalkRoom$ByteRow")
  | 5 => .object "StalkRoom$WayFinder"
  | 6 => .object "StalkRoom$Seed"
  | 7 => .object "StalkRoom$Odds"
  | 8 => .array .int
  | 9 => .array .int
  | 10 => .array .int
  | 11 => .int
  | 12 => .long
  | 13 => .long
  | _ => .long
theorem nmX9 : ∀ a, a < 15 → ∀ b, b < 15 → a ≠ b → (TX9 a).2.1 ≠ (TX9 b).2.1 := by decide +kernel
theorem tyX9_ok : ∀ k, k < 15 → parseFieldDescriptor (TX9 k).2.2.1 = some (tyX9 k) := by decide +kernel
abbrev cX9_init : ByteArray := prog_1_method_1_code
def yX9_init : MethodName := ⟨RX9, "<init>", "()V"⟩
abbrev cX9_caster : ByteArray := prog_1_method_2_code
def yX9_caster : MethodName := ⟨RX9, "caster", "(Z)I"⟩
abbrev cX9_stalks : ByteArray := prog_1_method_3_code
def yX9_stalks : MethodName := ⟨RX9, "stalks", "(IIZ)I"⟩
abbrev cX9_thumb : ByteArray := prog_1_method_4_code
def yX9_thumb : MethodName := ⟨RX9, "thumb", "(IIZII)I"⟩
abbrev cX9_told : ByteArray := prog_1_method_5_code
def yX9_told : MethodName := ⟨RX9, "told", "(II)I"⟩
abbrev cX9_mark : ByteArray := prog_1_method_6_code
def yX9_mark : MethodName := ⟨RX9, "mark", "(II)I"⟩
abbrev cX9_part : ByteArray := prog_1_method_7_code
def yX9_part : MethodName := ⟨RX9, "part", "(III)I"⟩
abbrev cX9_line : ByteArray := prog_1_method_8_code
def yX9_line : MethodName := ⟨RX9, "line", "(IIII)I"⟩
abbrev cX9_odds : ByteArray := prog_1_method_9_code
def yX9_odds : MethodName := ⟨RX9, "odds", "(II)I"⟩
abbrev cX9_mean : ByteArray := prog_1_method_10_code
def yX9_mean : MethodName := ⟨RX9, "mean", "(I)I"⟩
abbrev cX9_drawn : ByteArray := prog_1_method_11_code
def yX9_drawn : MethodName := ⟨RX9, "drawn", "(IJ)I"⟩
abbrev cX9_set : ByteArray := prog_1_method_12_code
def yX9_set : MethodName := ⟨RX9, "set", "(III)I"⟩
abbrev cX9_get : ByteArray := prog_1_method_13_code
def yX9_get : MethodName := ⟨RX9, "get", "(II)I"⟩
abbrev cX9_draw : ByteArray := prog_1_method_14_code
def yX9_draw : MethodName := ⟨RX9, "draw", "(IIJ)I"⟩
abbrev cX9_number : ByteArray := prog_1_method_15_code
def yX9_number : MethodName := ⟨RX9, "number", "(I)I"⟩
abbrev cX9_act : ByteArray := prog_1_method_16_code
def yX9_act : MethodName := ⟨RX9, "act", "(III)I"⟩
abbrev cX9_way : ByteArray := prog_1_method_17_code
def yX9_way : MethodName := ⟨RX9, "way", "(III)I"⟩
abbrev cX9_step : ByteArray := prog_1_method_18_code
def yX9_step : MethodName := ⟨RX9, "step", "(I)I"⟩
abbrev cX9_row : ByteArray := prog_1_method_19_code
def yX9_row : MethodName := ⟨RX9, "row", "(II)I"⟩
abbrev cX9_lay : ByteArray := prog_1_method_20_code
def yX9_lay : MethodName := ⟨RX9, "lay", "(III)I"⟩
abbrev cX9_tear : ByteArray := prog_1_method_21_code
def yX9_tear : MethodName := ⟨RX9, "tear", "(I)I"⟩
abbrev cX9_copy : ByteArray := prog_1_method_22_code
def yX9_copy : MethodName := ⟨RX9, "copy", "(IIIII)I"⟩
abbrev cX9_misfits : ByteArray := prog_1_method_23_code
def yX9_misfits : MethodName := ⟨RX9, "misfits", "(II)I"⟩
abbrev cX9_follows : ByteArray := prog_1_method_24_code
def yX9_follows : MethodName := ⟨RX9, "follows", "(I)I"⟩
abbrev cX9_lacks : ByteArray := prog_1_method_25_code
def yX9_lacks : MethodName := ⟨RX9, "lacks", "(I)I"⟩
abbrev cX9_swapped : ByteArray := prog_1_method_26_code
def yX9_swapped : MethodName := ⟨RX9, "swapped", "(II)I"⟩
abbrev cX9_record : ByteArray := prog_1_method_27_code
def yX9_record : MethodName := ⟨RX9, "record", "(IIJI)I"⟩
abbrev cX9_off : ByteArray := prog_1_method_28_code
def yX9_off : MethodName := ⟨RX9, "off", "(II)I"⟩
abbrev cX9_nearest : ByteArray := prog_1_method_29_code
def yX9_nearest : MethodName := ⟨RX9, "nearest", "(I)I"⟩
abbrev cX9_lost : ByteArray := prog_1_method_30_code
def yX9_lost : MethodName := ⟨RX9, "lost", "(II)I"⟩
abbrev cX9_need : ByteArray := prog_1_method_31_code
def yX9_need : MethodName := ⟨RX9, "need", "(II)I"⟩
abbrev cX9_asked : ByteArray := prog_1_method_32_code
def yX9_asked : MethodName := ⟨RX9, "asked", "()J"⟩
abbrev cX9_upper : ByteArray := prog_1_method_33_code
def yX9_upper : MethodName := ⟨RX9, "upper", "()J"⟩
abbrev cX9_lower : ByteArray := prog_1_method_34_code
def yX9_lower : MethodName := ⟨RX9, "lower", "()J"⟩
abbrev cX9_count : ByteArray := prog_1_method_35_code
def yX9_count : MethodName := ⟨RX9, "count", "(I)I"⟩
abbrev cX9_finding : ByteArray := prog_1_method_36_code
def yX9_finding : MethodName := ⟨RX9, "finding", "()I"⟩
abbrev cX9_findings : ByteArray := prog_1_method_37_code
def yX9_findings : MethodName := ⟨RX9, "findings", "(I)I"⟩
abbrev cX9_digest : ByteArray := prog_1_method_38_code
def yX9_digest : MethodName := ⟨RX9, "digest", "()J"⟩
abbrev cX9_found : ByteArray := prog_1_method_39_code
def yX9_found : MethodName := ⟨RX9, "found", "(I)I"⟩
abbrev cX9_keep : ByteArray := prog_1_method_40_code
def yX9_keep : MethodName := ⟨RX9, "keep", "(LStalkRoom$Caster;)I"⟩
abbrev cX9_casterAt : ByteArray := prog_1_method_41_code
def yX9_casterAt : MethodName := ⟨RX9, "casterAt", "(I)LStalkRoom$Caster;"⟩
abbrev cX9_figureAt : ByteArray := prog_1_method_42_code
def yX9_figureAt : MethodName := ⟨RX9, "figureAt", "(I)LStalkRoom$Figure;"⟩
abbrev cX9_rowAt : ByteArray := prog_1_method_43_code
def yX9_rowAt : MethodName := ⟨RX9, "rowAt", "(I)LStalkRoom$ByteRow;"⟩
abbrev cX9_rowsThere : ByteArray := prog_1_method_44_code
def yX9_rowsThere : MethodName := ⟨RX9, "rowsThere", "()I"⟩
abbrev cX9_oldLinesOfAll : ByteArray := prog_1_method_45_code
def yX9_oldLinesOfAll : MethodName := ⟨RX9, "oldLinesOfAll", "()I"⟩
abbrev cX9_tellFraction : ByteArray := prog_1_method_46_code
def yX9_tellFraction : MethodName := ⟨RX9, "tellFraction", "(JJ)V"⟩
abbrev cX9_weighedDiffer : ByteArray := prog_1_method_47_code
def yX9_weighedDiffer : MethodName := ⟨RX9, "weighedDiffer", "()I"⟩
abbrev cX9_commonDivisor : ByteArray := prog_1_method_48_code
def yX9_commonDivisor : MethodName := ⟨RX9, "commonDivisor", "(JJ)J"⟩
abbrev cX9_asStalks : ByteArray := prog_1_method_49_code
def yX9_asStalks : MethodName := ⟨RX9, "asStalks", "(LStalkRoom$Caster;)LStalkRoom$Stalks;"⟩
abbrev cX9_isBundle : ByteArray := prog_1_method_50_code
def yX9_isBundle : MethodName := ⟨RX9, "isBundle", "(II)Z"⟩
abbrev cX9_isNumber : ByteArray := prog_1_method_51_code
def yX9_isNumber : MethodName := ⟨RX9, "isNumber", "(I)Z"⟩
abbrev cX9_isOrder : ByteArray := prog_1_method_52_code
def yX9_isOrder : MethodName := ⟨RX9, "isOrder", "(I)Z"⟩
abbrev cX9_isOld : ByteArray := prog_1_method_53_code
def yX9_isOld : MethodName := ⟨RX9, "isOld", "(I)Z"⟩
abbrev cX9_turnedBits : ByteArray := prog_1_method_54_code
def yX9_turnedBits : MethodName := ⟨RX9, "turnedBits", "(I)I"⟩
abbrev cX9_oppositeBits : ByteArray := prog_1_method_55_code
def yX9_oppositeBits : MethodName := ⟨RX9, "oppositeBits", "(I)I"⟩
abbrev cX9_nestedBits : ByteArray := prog_1_method_56_code
def yX9_nestedBits : MethodName := ⟨RX9, "nestedBits", "(I)I"⟩
def RX10 : String := "StalkRoomModel"
def TX10 : u_T := fun k => match k with
  | 0 => ("StalkRoomModel", "finding", "I", false)
  | 1 => ("StalkRoomModel", "findings", "[I", true)
  | 2 => ("StalkRoomModel", "asked", "J", false)
  | 3 => ("StalkRoomModel", "upper", "J", false)
  | 4 => ("StalkRoomModel", "lower", "J", false)
  | 5 => ("StalkRoomModel", "casters", "I", false)
  | 6 => ("StalkRoomModel", "kinds", "[I", true)
  | 7 => ("StalkRoomModel", "sticks", "[I", true)
  | 8 => ("StalkRoomModel", "counts", "[I", true)
  | 9 => ("StalkRoomModel", "hasFinger", "[Z", true)
  | 10 => ("StalkRoomModel", "lows", "[I", true)
  | 11 => ("StalkRoomModel", "highs", "[I", true)
  | 12 => ("StalkRoomModel", "ups", "[J", true)
  | 13 => ("StalkRoomModel", "lowers", "[J", true)
  | 14 => ("StalkRoomModel", "nextUps", "[J", true)
  | 15 => ("StalkRoomModel", "nextLowers", "[J", true)
  | 16 => ("StalkRoomModel", "oddsUp", "[J", true)
  | 17 => ("StalkRoomModel", "oddsLow", "[J", true)
  | 18 => ("StalkRoomModel", "sumUp", "J", false)
  | 19 => ("StalkRoomModel", "sumLow", "J", false)
  | 20 => ("StalkRoomModel", "seed", "J", false)
  | 21 => ("StalkRoomModel", "figures", "[I", true)
  | 22 => ("StalkRoomModel", "six", "[I", true)
  | 23 => ("StalkRoomModel", "far", "[I", true)
  | 24 => ("StalkRoomModel", "steps", "I", false)
  | 25 => ("StalkRoomModel", "stepRow", "[I", true)
  | 26 => ("StalkRoomModel", "sizes", "[I", true)
  | 27 => ("StalkRoomModel", "rows", "[I", true)
  | 28 => ("StalkRoomModel", "moving", "[I", true)
  | 29 => ("StalkRoomModel", "times", "[I", true)
  | 30 => ("StalkRoomModel", "counted", "I", false)
  | 31 => ("StalkRoomModel", "shares", "[I", true)
  | _ => ("StalkRoomModel", "held", "[I", true)
def tyX10 : Nat → FieldType := fun k => match k with
  | 0 => .int
  | 1 => .array .int
  | 2 => .long
  | 3 => .long
  | 4 => .long
  | 5 => .int
  | 6 => .array .int
  | 7 => .array .int
  | 8 => .array .int
  | 9 => .array .boolean
  | 10 => .array .int
  | 11 => .array .int
  | 12 => .array .long
  | 13 => .array .long
  | 14 => .array .long
  | 15 => .array .long
  | 16 => .array .long
  | 17 => .array .long
  | 18 => .long
  | 19 => .long
  | 20 => .long
  | 21 => .array .int
  | 22 => .array .int
  | 23 => .array .int
  | 24 => .int
  | 25 => .array .int
  | 26 => .array .int
  | 27 => .array .int
  | 28 => .array .int
  | 29 => .array .int
  | 30 => .int
  | 31 => .array .int
  | _ => .array .int
theorem nmX10 : ∀ a, a < 33 → ∀ b, b < 33 → a ≠ b → (TX10 a).2.1 ≠ (TX10 b).2.1 := by decide +kernel
theorem tyX10_ok : ∀ k, k < 33 → parseFieldDescriptor (TX10 k).2.2.1 = some (tyX10 k) := by decide +kernel
abbrev cX10_init : ByteArray := prog_12_method_1_code
def yX10_init : MethodName := ⟨RX10, "<init>", "()V"⟩
abbrev cX10_in : ByteArray := prog_12_method_3_code
def yX10_in : MethodName := ⟨RX10, "in", "(III)Z"⟩
abbrev cX10_meets : ByteArray := prog_12_method_4_code
def yX10_meets : MethodName := ⟨RX10, "meets", "(I)I"⟩
abbrev cX10_divisor : ByteArray := prog_12_method_5_code
def yX10_divisor : MethodName := ⟨RX10, "divisor", "(JJ)J"⟩
abbrev cX10_tell : ByteArray := prog_12_method_6_code
def yX10_tell : MethodName := ⟨RX10, "tell", "(JJ)I"⟩
abbrev cX10_put : ByteArray := prog_12_method_7_code
def yX10_put : MethodName := ⟨RX10, "put", "(IIIZII)I"⟩
abbrev cX10_caster : ByteArray := prog_12_method_8_code
def yX10_caster : MethodName := ⟨RX10, "caster", "(Z)I"⟩
abbrev cX10_areStalks : ByteArray := prog_12_method_9_code
def yX10_areStalks : MethodName := ⟨RX10, "areStalks", "(II)Z"⟩
abbrev cX10_stalks : ByteArray := prog_12_method_10_code
def yX10_stalks : MethodName := ⟨RX10, "stalks", "(IIZ)I"⟩
abbrev cX10_thumb : ByteArray := prog_12_method_11_code
def yX10_thumb : MethodName := ⟨RX10, "thumb", "(IIZII)I"⟩
abbrev cX10_isCaster : ByteArray := prog_12_method_12_code
def yX10_isCaster : MethodName := ⟨RX10, "isCaster", "(I)Z"⟩
abbrev cX10_parts : ByteArray := prog_12_method_13_code
def yX10_parts : MethodName := ⟨RX10, "parts", "(I)Z"⟩
abbrev cX10_tells : ByteArray := prog_12_method_14_code
def yX10_tells : MethodName := ⟨RX10, "tells", "(II)I"⟩
abbrev cX10_told : ByteArray := prog_12_method_15_code
def yX10_told : MethodName := ⟨RX10, "told", "(II)I"⟩
abbrev cX10_rest : ByteArray := prog_12_method_16_code
def yX10_rest : MethodName := ⟨RX10, "rest", "(II)I"⟩
abbrev cX10_left : ByteArray := prog_12_method_17_code
def yX10_left : MethodName := ⟨RX10, "left", "(III)I"⟩
abbrev cX10_first : ByteArray := prog_12_method_18_code
def yX10_first : MethodName := ⟨RX10, "first", "(II)I"⟩
abbrev cX10_places : ByteArray := prog_12_method_19_code
def yX10_places : MethodName := ⟨RX10, "places", "(II)I"⟩
abbrev cX10_mark : ByteArray := prog_12_method_20_code
def yX10_mark : MethodName := ⟨RX10, "mark", "(II)I"⟩
abbrev cX10_part : ByteArray := prog_12_method_21_code
def yX10_part : MethodName := ⟨RX10, "part", "(III)I"⟩
abbrev cX10_line : ByteArray := prog_12_method_22_code
def yX10_line : MethodName := ⟨RX10, "line", "(IIII)I"⟩
abbrev cX10_add : ByteArray := prog_12_method_23_code
def yX10_add : MethodName := ⟨RX10, "add", "(JJJJ)V"⟩
abbrev cX10_clearOdds : ByteArray := prog_12_method_24_code
def yX10_clearOdds : MethodName := ⟨RX10, "clearOdds", "()V"⟩
abbrev cX10_setOdds : ByteArray := prog_12_method_25_code
def yX10_setOdds : MethodName := ⟨RX10, "setOdds", "(I)V"⟩
abbrev cX10_partAll : ByteArray := prog_12_method_26_code
def yX10_partAll : MethodName := ⟨RX10, "partAll", "(I)V"⟩
abbrev cX10_odds : ByteArray := prog_12_method_27_code
def yX10_odds : MethodName := ⟨RX10, "odds", "(II)I"⟩
abbrev cX10_mean : ByteArray := prog_12_method_28_code
def yX10_mean : MethodName := ⟨RX10, "mean", "(I)I"⟩
abbrev cX10_under : ByteArray := prog_12_method_29_code
def yX10_under : MethodName := ⟨RX10, "under", "(I)I"⟩
abbrev cX10_draws : ByteArray := prog_12_method_30_code
def yX10_draws : MethodName := ⟨RX10, "draws", "(I)I"⟩
abbrev cX10_drawn : ByteArray := prog_12_method_31_code
def yX10_drawn : MethodName := ⟨RX10, "drawn", "(IJ)I"⟩
abbrev cX10_isFigure : ByteArray := prog_12_method_32_code
def yX10_isFigure : MethodName := ⟨RX10, "isFigure", "(I)Z"⟩
abbrev cX10_set : ByteArray := prog_12_method_33_code
def yX10_set : MethodName := ⟨RX10, "set", "(III)I"⟩
abbrev cX10_get : ByteArray := prog_12_method_34_code
def yX10_get : MethodName := ⟨RX10, "get", "(II)I"⟩
abbrev cX10_draw : ByteArray := prog_12_method_35_code
def yX10_draw : MethodName := ⟨RX10, "draw", "(IIJ)I"⟩
abbrev cX10_numberOf : ByteArray := prog_12_method_36_code
def yX10_numberOf : MethodName := ⟨RX10, "numberOf", "(I)I"⟩
abbrev cX10_number : ByteArray := prog_12_method_37_code
def yX10_number : MethodName := ⟨RX10, "number", "(I)I"⟩
abbrev cX10_nestedAt : ByteArray := prog_12_method_38_code
def yX10_nestedAt : MethodName := ⟨RX10, "nestedAt", "(I)I"⟩
abbrev cX10_act : ByteArray := prog_12_method_39_code
def yX10_act : MethodName := ⟨RX10, "act", "(III)I"⟩
abbrev cX10_turned : ByteArray := prog_12_method_40_code
def yX10_turned : MethodName := ⟨RX10, "turned", "(I)I"⟩
abbrev cX10_after : ByteArray := prog_12_method_41_code
def yX10_after : MethodName := ⟨RX10, "after", "(II)I"⟩
abbrev cX10_way : ByteArray := prog_12_method_42_code
def yX10_way : MethodName := ⟨RX10, "way", "(III)I"⟩
abbrev cX10_step : ByteArray := prog_12_method_43_code
def yX10_step : MethodName := ⟨RX10, "step", "(I)I"⟩
abbrev cX10_isRow : ByteArray := prog_12_method_44_code
def yX10_isRow : MethodName := ⟨RX10, "isRow", "(I)Z"⟩
abbrev cX10_looked : ByteArray := prog_12_method_45_code
def yX10_looked : MethodName := ⟨RX10, "looked", "(I)I"⟩
abbrev cX10_row : ByteArray := prog_12_method_46_code
def yX10_row : MethodName := ⟨RX10, "row", "(II)I"⟩
abbrev cX10_lay : ByteArray := prog_12_method_47_code
def yX10_lay : MethodName := ⟨RX10, "lay", "(III)I"⟩
abbrev cX10_tear : ByteArray := prog_12_method_48_code
def yX10_tear : MethodName := ⟨RX10, "tear", "(I)I"⟩
abbrev cX10_copy : ByteArray := prog_12_method_49_code
def yX10_copy : MethodName := ⟨RX10, "copy", "(IIIII)I"⟩
abbrev cX10_leaf : ByteArray := prog_12_method_50_code
def yX10_leaf : MethodName := ⟨RX10, "leaf", "(II)I"⟩
abbrev cX10_misfitsOf : ByteArray := prog_12_method_51_code
def yX10_misfitsOf : MethodName := ⟨RX10, "misfitsOf", "(II)I"⟩
abbrev cX10_misfits : ByteArray := prog_12_method_52_code
def yX10_misfits : MethodName := ⟨RX10, "misfits", "(II)I"⟩
abbrev cX10_follows : ByteArray := prog_12_method_53_code
def yX10_follows : MethodName := ⟨RX10, "follows", "(I)I"⟩
abbrev cX10_lacks : ByteArray := prog_12_method_54_code
def yX10_lacks : MethodName := ⟨RX10, "lacks", "(I)I"⟩
abbrev cX10_swap : ByteArray := prog_12_method_55_code
def yX10_swap : MethodName := ⟨RX10, "swap", "(III)V"⟩
abbrev cX10_swapped : ByteArray := prog_12_method_56_code
def yX10_swapped : MethodName := ⟨RX10, "swapped", "(II)I"⟩
abbrev cX10_record : ByteArray := prog_12_method_57_code
def yX10_record : MethodName := ⟨RX10, "record", "(IIJI)I"⟩
abbrev cX10_counts : ByteArray := prog_12_method_58_code
def yX10_counts : MethodName := ⟨RX10, "counts", "(I)Z"⟩
abbrev cX10_setShares : ByteArray := prog_12_method_59_code
def yX10_setShares : MethodName := ⟨RX10, "setShares", "(I)V"⟩
abbrev cX10_offOf : ByteArray := prog_12_method_60_code
def yX10_offOf : MethodName := ⟨RX10, "offOf", "(I)I"⟩
abbrev cX10_off : ByteArray := prog_12_method_61_code
def yX10_off : MethodName := ⟨RX10, "off", "(II)I"⟩
abbrev cX10_nearest : ByteArray := prog_12_method_62_code
def yX10_nearest : MethodName := ⟨RX10, "nearest", "(I)I"⟩
abbrev cX10_lost : ByteArray := prog_12_method_63_code
def yX10_lost : MethodName := ⟨RX10, "lost", "(II)I"⟩
abbrev cX10_need : ByteArray := prog_12_method_64_code
def yX10_need : MethodName := ⟨RX10, "need", "(II)I"⟩
abbrev cX10_asked : ByteArray := prog_12_method_65_code
def yX10_asked : MethodName := ⟨RX10, "asked", "()J"⟩
abbrev cX10_upper : ByteArray := prog_12_method_66_code
def yX10_upper : MethodName := ⟨RX10, "upper", "()J"⟩
abbrev cX10_lower : ByteArray := prog_12_method_67_code
def yX10_lower : MethodName := ⟨RX10, "lower", "()J"⟩
abbrev cX10_count : ByteArray := prog_12_method_68_code
def yX10_count : MethodName := ⟨RX10, "count", "(I)I"⟩
abbrev cX10_finding : ByteArray := prog_12_method_69_code
def yX10_finding : MethodName := ⟨RX10, "finding", "()I"⟩
abbrev cX10_findings : ByteArray := prog_12_method_70_code
def yX10_findings : MethodName := ⟨RX10, "findings", "(I)I"⟩
abbrev cX10_digest : ByteArray := prog_12_method_71_code
def yX10_digest : MethodName := ⟨RX10, "digest", "()J"⟩
def RJ13 : String := "java/lang/Long"
abbrev cJ13_bitCount_95d88 : ByteArray := prog_13_method_50_code
def yJ13_bitCount_95d88 : MethodName := ⟨RJ13, "bitCount", "(J)I"⟩
def RJ9 : String := "java/lang/Math"
abbrev cJ9_abs_0f7a4 : ByteArray := prog_14_method_59_code
def yJ9_abs_0f7a4 : MethodName := ⟨RJ9, "abs", "(I)I"⟩
def RJ10 : String := "java/lang/System"
def RJ7 : String := "java/util/Arrays"
abbrev cJ7_fill_d0a16 : ByteArray := prog_16_method_101_code
def yJ7_fill_d0a16 : MethodName := ⟨RJ7, "fill", "([JJ)V"⟩
abbrev cJ7_fill_53178 : ByteArray := prog_16_method_103_code
def yJ7_fill_53178 : MethodName := ⟨RJ7, "fill", "([II)V"⟩
abbrev cJ7_fill_031fb : ByteArray := prog_16_method_109_code
def yJ7_fill_031fb : MethodName := ⟨RJ7, "fill", "([BB)V"⟩
def RL : String := "StalkRoomLaw"
abbrev cL_law : ByteArray := code
def yL_law : MethodName := ⟨RL, "law", "([I)Z"⟩
abbrev vwCl : List vw_C := [(RX0, TX0, 2), (RX1, TX1, 0), (RX2, TX2, 0), (RX3, TX3, 1), (RX4, TX4, 4), (RX5, TX5, 1), (RX6, TX6, 3), (RX7, TX7, 5), (RX8, TX8, 5), (RX9, TX9, 15), (RX10, TX10, 33)]
end
section
/-! THE PURE MACHINE. Addresses: 0 is the script, k + 1 the cell that came k-th since the law began. A cell: an array (its type, length, contents) or an object (its class's number in vwCl, its fields). -/
abbrev pm_C : Type := (FieldType × vp_A) ⊕ (Nat × List Value)
abbrev pm_H : Type := Nat × (Nat → Option pm_C)
abbrev pm_G : Type := va_G × (FieldType → ClassId) × Cell × Nat × Nat
abbrev pm_E : Type := MethodName × ByteArray × Nat × Option FieldType × Room
abbrev pm_cc (E : pm_E) : ByteArray := E.2.1
abbrev pm_nL (E : pm_E) : Nat := E.2.2.1
abbrev pm_rt (E : pm_E) : Option FieldType := E.2.2.2.1
abbrev pm_rm (E : pm_E) : Room := E.2.2.2.2
def pm_ro (G : pm_G) (a : Nat) : Nat := match a with
  | 0 => G.2.2.2.1
  | k + 1 => G.2.2.2.2 + k
def pm_rv (G : pm_G) (v : Value) : Value := match v with
  | .ref a => .ref (pm_ro G a)
  | .int x => .int x
  | .long x => .long x
  | .float x => .float x
  | .double x => .double x
  | .null => .null
  | .retAddr x => .retAddr x
def pm_ra (G : pm_G) (x : vp_A) : vp_A := match x with
  | (n, .inr (.inr (.inr (.inr f)))) => (n, .inr (.inr (.inr (.inr (fun j => (f j).map (pm_ro G))))))
  | (n, .inl f) => (n, .inl f)
  | (n, .inr (.inl f)) => (n, .inr (.inl f))
  | (n, .inr (.inr (.inl f))) => (n, .inr (.inr (.inl f)))
  | (n, .inr (.inr (.inr (.inl f)))) => (n, .inr (.inr (.inr (.inl f))))
theorem pm_rv_cat (G : pm_G) (v : Value) : (pm_rv G v).category = v.category := by cases v <;> rfl
theorem pm_rv_cats (G : pm_G) (st : List Value) : ((st.map (pm_rv G)).map fun v => v.category).sum = (st.map fun v => v.category).sum := by
  induction st with
  | nil => rfl
  | cons v t ih => simp only [List.map_cons, List.sum_cons, pm_rv_cat, ih]
theorem pm_rv_rf (G : pm_G) (o : Option Nat) : pm_rv G (va_rf o) = va_rf (o.map (pm_ro G)) := by cases o <;> rfl
def pm_at (G : pm_G) (a : Nat) (c : pm_C) (H : Heap) : Prop := match c with
  | .inl x => (x.1 = .array .int ∧ a = 0 ∧ H[pm_ro G a]? = some G.2.2.1 ∧ G.2.2.1.vm ≠ .unknown ∧ ∃ f : Nat → Int32, x.2.2 = .inl f ∧ G.2.2.1.slots.size = x.2.1 ∧ ∀ j, j < x.2.1 → G.2.2.1.slots[j]? = some (.int (f j))) ∨ (0 < a ∧ H[pm_ro G a]? = some (vp_cell (G.2.1 x.1) (pm_ra G x.2)) ∧ x.1 ≠ .array .int)
  | .inr o => 0 < a ∧ va_at G.1 vwCl (pm_ro G a, .inr (o.1, o.2.map (pm_rv G))) H
def pm_R (G : pm_G) (h : pm_H) (H : Heap) : Prop := G.2.2.2.1 < G.2.2.2.2 ∧ 0 < h.1 ∧ H.size = pm_ro G h.1 ∧ ∀ a c, h.2 a = some c → pm_at G a c H
def pm_up (h : pm_H) (a : Nat) (c : pm_C) : pm_H := (h.1, fun q => if q = a then some c else h.2 q)
def pm_nw (h : pm_H) (c : pm_C) : pm_H := (h.1 + 1, fun q => if q = h.1 then some c else h.2 q)
theorem pm_same {h : pm_H} {a : Nat} {c : pm_C} : (pm_up h a c).2 a = some c := by simp [pm_up]
theorem pm_ne {h : pm_H} {a q : Nat} {c : pm_C} {x : Option pm_C} (n : q ≠ a) (e : h.2 q = x) : (pm_up h a c).2 q = x := by simp [pm_up, n, e]
theorem pm_up_up {h : pm_H} {a : Nat} {c d : pm_C} : pm_up (pm_up h a c) a d = pm_up h a d := by
  simp only [pm_up, Prod.mk.injEq, true_and]
  funext q
  by_cases e : q = a <;> simp [e]
theorem pm_up_self {h : pm_H} {a : Nat} {c : pm_C} (e : h.2 a = some c) : pm_up h a c = h := by
  refine Prod.ext rfl ?_
  funext q
  show (if q = a then some c else h.2 q) = h.2 q
  by_cases g : q = a
  · rw [if_pos g, g, e]
  · rw [if_neg g]
theorem pm_up_comm {h : pm_H} {a b : Nat} {c d : pm_C} (n : a ≠ b) : pm_up (pm_up h a c) b d = pm_up (pm_up h b d) a c := by
  simp only [pm_up, Prod.mk.injEq, true_and]
  funext q
  by_cases e : q = b
  · by_cases e2 : q = a
    · exact absurd (e2.symm.trans e) n
    · simp [e, Ne.symm n]
  · simp [e]
theorem pm_ro_inj {G : pm_G} (hb : G.2.2.2.1 < G.2.2.2.2) {a c : Nat} (h : pm_ro G a = pm_ro G c) : a = c := by
  cases a <;> cases c <;> simp only [pm_ro] at h <;> omega
theorem pm_ro_pos {G : pm_G} {a : Nat} (h : 0 < a) : G.2.2.2.2 ≤ pm_ro G a := by
  cases a with
  | zero => omega
  | succ k => simp [pm_ro]
theorem pm_at.kept {G : pm_G} {a : Nat} {c : pm_C} {H H' : Heap} (h : pm_at G a c H) (e : H'[pm_ro G a]? = H[pm_ro G a]?) : pm_at G a c H' := by
  cases c with
  | inl x =>
    rcases h with ⟨h1, h2, h3, h4⟩ | ⟨h1, h2, h3⟩
    · exact Or.inl ⟨h1, h2, by rw [e]; exact h3, h4⟩
    · exact Or.inr ⟨h1, by rw [e]; exact h2, h3⟩
  | inr o =>
    obtain ⟨h1, r, h2, h3⟩ := h
    exact ⟨h1, r, h2, h3.kept e⟩
theorem pm_at.lt {G : pm_G} {a : Nat} {c : pm_C} {H : Heap} (h : pm_at G a c H) : pm_ro G a < H.size := by
  cases c with
  | inl x =>
    rcases h with ⟨h1, h2, h3, h4⟩ | ⟨h1, h2, h3⟩
    · exact (Array.getElem?_eq_some_iff.mp h3).1
    · exact (Array.getElem?_eq_some_iff.mp h2).1
  | inr o =>
    obtain ⟨h1, r, h2, cell, h3, -⟩ := h
    exact (Array.getElem?_eq_some_iff.mp h3).1
theorem pm_R.up {G : pm_G} {h : pm_H} {H H' : Heap} {a : Nat} {c : pm_C} (hR : pm_R G h H) (ha : pm_at G a c H') (hz : H'.size = H.size) (ho : ∀ q, q ≠ pm_ro G a → H'[q]? = H[q]?) : pm_R G (pm_up h a c) H' := by
  obtain ⟨h1, h2, h3, h4⟩ := hR
  refine ⟨h1, h2, by rw [hz]; exact h3, fun q d hq => ?_⟩
  by_cases e : q = a
  · subst e
    rw [pm_same] at hq
    cases hq
    exact ha
  · have hq' : h.2 q = some d := by simpa [pm_up, e] using hq
    exact (h4 q d hq').kept (ho _ (fun e2 => e (pm_ro_inj h1 e2)))
theorem pm_R.nw {G : pm_G} {h : pm_H} {H H' : Heap} {c : pm_C} (hR : pm_R G h H) (ha : pm_at G h.1 c H') (hz : H'.size = H.size + 1) (ho : ∀ q, q < H.size → H'[q]? = H[q]?) : pm_R G (pm_nw h c) H' := by
  obtain ⟨h1, h2, h3, h4⟩ := hR
  refine ⟨h1, Nat.succ_pos _, ?_, fun q d hq => ?_⟩
  · rw [hz, h3]
    show pm_ro G h.1 + 1 = pm_ro G (h.1 + 1)
    cases e : h.1 with
    | zero => omega
    | succ k => simp only [pm_ro]; omega
  · by_cases e : q = h.1
    · subst e
      have : (pm_nw h c).2 h.1 = some c := by simp [pm_nw]
      rw [this] at hq
      cases hq
      exact ha
    · have hq' : h.2 q = some d := by simpa [pm_nw, e] using hq
      have := h4 q d hq'
      exact this.kept (ho _ this.lt)
def pm_tl : List FieldType := [.int, .long, .byte, .boolean, .object RX1, .object RX3, .object RX0]
def pm_tys (G : pm_G) : List (ClassId × FieldType) := pm_tl.map (fun t => (G.2.1 t, t))
def pm_no : List (String × String) := [(RX1, RX6), (RX2, RX6), (RX1, RX2), (RX6, RX2), (RX7, RX2), (RX1, RX7), (RX2, RX7), (RX6, RX7)]
def pm_kind (w : Cond) : Bool := match w with
  | .fieldLinkNest _ _ _ _ _ _ => true
  | .methodLinkNest _ _ _ _ => true
  | .declares _ => true
  | .castable _ _ => true
  | .arrayOver (.object _) => true
  | w => goodWord w
/-- private methods of Stalks on an object of Thumb: what is selected is the method itself -/
def pm_ex : List Cond := [.selects RX7 yX6_rest yX6_rest, .selects RX7 yX6_partHeaps yX6_partHeaps, .selects RX7 yX6_sharesOf yX6_sharesOf, .selects RX7 yX6_partHeap yX6_partHeap]
def pm_tbl : List Cond := (lw_tbl ++ pm_ex).filter pm_kind
theorem pm_m {w : Cond} (h : w ∈ lw_tbl) (hk : pm_kind w = true) : w ∈ pm_tbl := List.mem_filter.mpr ⟨List.mem_append_left _ h, hk⟩
theorem pm_mx {w : Cond} (h : w ∈ pm_ex) (hk : pm_kind w = true) : w ∈ pm_tbl := List.mem_filter.mpr ⟨List.mem_append_right _ h, hk⟩
theorem pm_selC {C : String} {y : MethodName} {s : State} {args : Array Value} {n : Nat} (hy : y.cls ≠ "java/lang/invoke/MethodHandle" ∧ y.cls ≠ "java/lang/invoke/VarHandle")
    (hins : (Cond.instantiable C n).before args s = true) (hins2 : ∃ n2, (Cond.instantiable y.cls n2).before args s = true) (hpriv : (Cond.privateMethod y).before args s = true) (hinst : (Cond.instanceMethod y).before args s = true) :
    (Cond.selects C y y).before args s = true := by
  obtain ⟨n2, hins2⟩ := hins2
  obtain ⟨c0, k0, hc0, hk0, -, hniab0, -, -⟩ := Cond.instantiable_spec hins
  obtain ⟨c, k, hc, hk, -, hniab, -, -⟩ := Cond.instantiable_spec hins2
  have hni : k.isInterface = false := (Bool.or_eq_false_iff.mp hniab).1
  obtain ⟨mk, methM, hnamed, hmethM, -, -⟩ := Cond.instanceMethod_spec hinst
  have hfound : s.methodFound? y.cls y.name y.desc = some mk := State.methodFound?_of_named hnamed hy
  have hcls : mk.cls = c := Option.some.inj ((findClass_of_methodNamed hnamed).symm.trans hc)
  have hsel : selectMethod {} s.vm c0 mk = .method mk := selectMethod_private hmethM (Cond.privateMethod_at hpriv mk methM hnamed hmethM)
  simp only [Cond.before, Cond.holds, Cond.value, hc0, hfound, hnamed, hsel, hcls, hk]
  simp; exact hni
def pm_K (G : pm_G) (U : State) : Prop := va_K G.1 vwCl (pm_tys G) U ∧ (∀ w ∈ pm_tbl, ∀ a : Array Value, w.before a U = true) ∧ (∀ q ∈ pm_no, va_Nc q.1 q.2 U) ∧ U.isArrayOf G.2.2.1 .int
theorem pm_word {w : Cond} (hk : pm_kind w = true) {s U : State} (hW : s.WarmedH U.vm) (h : ∀ a : Array Value, w.before a s = true) : ∀ a : Array Value, w.before a U = true := by
  intro a
  unfold pm_kind at hk
  split at hk
  · exact va_Nw.use rfl (va_Nw.warmF hW (h #[]))
  · exact va_Nw.use rfl (va_Nw.warmM hW (h #[]))
  · exact va_Nw.use rfl (va_Nw.warmD hW (h #[]))
  · exact va_Nw.use rfl (va_Nw.warmC hW (h #[]))
  · exact va_AO.use (va_AO.moved hW.alike (h #[]))
  · exact word_at hW (good_of_word hk) (h #[])
theorem pm_K.warm {G : pm_G} {s U : State} (h : pm_K G s) (hW : s.WarmedH U.vm) : pm_K G U :=
  ⟨h.1.moved hW.alike, fun w hw => pm_word (List.mem_filter.mp hw).2 hW (h.2.1 w hw), fun q hq => (h.2.2.1 q hq).moved hW.alike, State.isArrayOf_alike hW.alike h.2.2.2⟩
def pm_al (L : List (Option Value)) : List (Nat × Value) := (List.range L.length).filterMap (fun i => (L[i]?.join).map (fun v => (i, v)))
theorem pm_al_mem {L : List (Option Value)} {q : Nat × Value} : q ∈ pm_al L ↔ L[q.1]? = some (some q.2) := by
  unfold pm_al
  rw [List.mem_filterMap]
  constructor
  · rintro ⟨i, hi, h⟩
    cases e : L[i]? with
    | none => simp [e] at h
    | some x =>
      cases x with
      | none => simp [e] at h
      | some v =>
        simp [e] at h
        rw [← h]
        exact e
  · intro h
    refine ⟨q.1, List.mem_range.mpr (List.getElem?_eq_some_iff.mp h).1, ?_⟩
    simp [h]
def pm_L (G : pm_G) (L : List (Option Value)) (ls : Array Slot) (n : Nat) : Prop := lv_has ls n ((pm_al L).map (fun q => (q.1, pm_rv G q.2)))
theorem pm_L.at {G : pm_G} {L : List (Option Value)} {ls : Array Slot} {n : Nat} (h : pm_L G L ls n) {i : Nat} {v : Value} (e : L[i]? = some (some v)) : ls[i]? = some (.val (pm_rv G v)) :=
  h.2.2 (i, pm_rv G v) (List.mem_map.mpr ⟨(i, v), pm_al_mem.mpr e, rfl⟩)
theorem pm_L.sub {G : pm_G} {L L' : List (Option Value)} {ls : Array Slot} {n : Nat} (h : pm_L G L ls n) (hs : ∀ (i : Nat) (v : Value), L'[i]? = some (some v) → L[i]? = some (some v)) : pm_L G L' ls n := by
  refine ⟨h.1, h.2.1, fun q hq => ?_⟩
  obtain ⟨x, hx, rfl⟩ := List.mem_map.mp hq
  exact h.at (hs _ _ (pm_al_mem.mp hx))
/-- behind a store of one word -/
theorem pm_L.st1 {G : pm_G} {L : List (Option Value)} {ls' : Array Slot} {n i : Nat} {v : Value} (h : lv_has ls' n ((i, pm_rv G v) :: ((pm_al L).map (fun q => (q.1, pm_rv G q.2))).filter (fun q => !(q.1 == i) && !(q.1 + 1 == i && q.2.category == 2)))) (hn : ∀ w, L[i - 1]? = some (some w) → w.category = 1) : pm_L G (L.set i (some v)) ls' n := by
  refine ⟨h.1, h.2.1, fun q hq => ?_⟩
  obtain ⟨x, hx, rfl⟩ := List.mem_map.mp hq
  have hx' := pm_al_mem.mp hx
  rw [List.getElem?_set] at hx'
  split at hx'
  · next e =>
    split at hx'
    · next hlt =>
      cases hx'
      have e1 : x = (i, x.2) := by rw [e]
      rw [← e]
      exact h.2.2 _ List.mem_cons_self
    · cases hx'
  · next e =>
    refine h.2.2 _ (List.mem_cons_of_mem _ (List.mem_filter.mpr ⟨List.mem_map.mpr ⟨x, pm_al_mem.mpr hx', rfl⟩, ?_⟩))
    have e1 : (x.1 == i) = false := by simpa using fun q => e q.symm
    simp only [e1, Bool.not_false, Bool.true_and, Bool.not_eq_true', Bool.and_eq_false_iff]
    by_cases e2 : x.1 + 1 = i
    · right
      have e3 : i - 1 = x.1 := by omega
      have := hn x.2 (by rw [e3]; exact hx')
      simp [pm_rv_cat, this]
    · left
      simpa using e2
theorem pm_L.st2 {G : pm_G} {L : List (Option Value)} {ls' : Array Slot} {n i : Nat} {v : Value} (h : lv_has ls' n ((i, pm_rv G v) :: ((pm_al L).map (fun q => (q.1, pm_rv G q.2))).filter (fun q => !(q.1 == i) && (!(q.1 == i + 1) && !(q.1 + 1 == i && q.2.category == 2))))) (hn : ∀ w, L[i - 1]? = some (some w) → w.category = 1) : pm_L G ((L.set i (some v)).set (i + 1) none) ls' n := by
  refine ⟨h.1, h.2.1, fun q hq => ?_⟩
  obtain ⟨x, hx, rfl⟩ := List.mem_map.mp hq
  have hx' := pm_al_mem.mp hx
  rw [List.getElem?_set] at hx'
  split at hx'
  · split at hx'
    · cases hx'
    · cases hx'
  next e0 =>
  rw [List.getElem?_set] at hx'
  split at hx'
  · next e =>
    split at hx'
    · next hlt =>
      cases hx'
      rw [← e]
      exact h.2.2 _ List.mem_cons_self
    · cases hx'
  · next e =>
    refine h.2.2 _ (List.mem_cons_of_mem _ (List.mem_filter.mpr ⟨List.mem_map.mpr ⟨x, pm_al_mem.mpr hx', rfl⟩, ?_⟩))
    have e1 : (x.1 == i) = false := by simpa using fun q => e q.symm
    have e4 : (x.1 == i + 1) = false := by simpa using fun q => e0 q.symm
    simp only [e1, e4, Bool.not_false, Bool.true_and, Bool.not_eq_true', Bool.and_eq_false_iff]
    by_cases e2 : x.1 + 1 = i
    · right
      have e3 : i - 1 = x.1 := by omega
      have := hn x.2 (by rw [e3]; exact hx')
      simp [pm_rv_cat, this]
    · left
      simpa using e2
/-- which instruction ends a method with v, and whether its type lets v through as it is -/
def pm_ri (v : Option Value) : Instr := match v with
  | none => .return_
  | some (.int _) => .ireturn
  | some (.long _) => .lreturn
  | some _ => .areturn
def pm_rok (rt : Option FieldType) (v : Option Value) : Prop := match v with
  | none => rt = none
  | some (.int x) => ∃ ty, rt = some ty ∧ narrow ty (.int x) = .int x
  | some (.long _) => rt = some .long
  | some (.ref _) => ∃ n, rt = some (.object n)
  | some .null => ∃ n, rt = some (.object n)
  | _ => False
def pm_X (E : pm_E) (G : pm_G) (p : Program) (s : State) (m : MethodId) (meth : Method) (c : Code) : Prop :=
  p.tables.exec = Jvm.exec ∧ c.code = pm_cc E ∧ c.maxLocals = pm_nL E ∧ s.vm.findClass E.1.cls = some m.cls ∧ meth.name = E.1.name ∧ pm_K G s
def pm_End (E : pm_E) (G : pm_G) (p : Program) (l : Launch) (e : Env) (s : State) (m : MethodId) (args : Array Value) (below : List Frame) (meth : Method) (c : Code) (Q : State → Prop) (F : Option Value → pm_H → Prop) : Prop :=
  ∀ (v : Option Value) (h1 : pm_H), F v h1 → pm_rok (pm_rt E) v → ∀ (H1 : Heap) (locs1 : List Loc) (cells1 slots1 pc1 : Nat) (ls1 : Array Slot), pm_R G h1 H1 → (∀ q ∈ locs1, G.2.2.2.2 ≤ q.base) → cells1 ≤ (pm_rm E).cells → slots1 ≤ (pm_rm E).slots →
    decode (pm_cc E) pc1 = .ok (pm_ri v, 1) → W p l e (pm_rm E) s m args below meth c H1 locs1 cells1 slots1 Q (F0 m pc1 ls1 (v.toList.map (pm_rv G)))
/-- from pc, with these locals, this stack and this heap, with b cells and slots left, the method comes to an end with F -/
def pm_V (E : pm_E) (pc : Nat) (L : List (Option Value)) (st : List Value) (h : pm_H) (b : Nat × Nat) (F : Option Value → pm_H → Prop) : Prop :=
  ∀ (G : pm_G) (p : Program) (l : Launch) (e : Env) (s : State) (m : MethodId) (args : Array Value) (below : List Frame) (meth : Method) (c : Code) (H : Heap) (locs : List Loc) (ls : Array Slot) (cells slots : Nat) (Q : State → Prop),
    pm_X E G p s m meth c → pm_R G h H → (∀ q ∈ locs, G.2.2.2.2 ≤ q.base) → pm_L G L ls (pm_nL E) → cells + b.1 ≤ (pm_rm E).cells → slots + b.2 ≤ (pm_rm E).slots → pm_End E G p l e s m args below meth c Q F →
    W p l e (pm_rm E) s m args below meth c H locs cells slots Q (F0 m pc ls (st.map (pm_rv G)))
/-- the contract of a method -/
def pm_Cl (E : pm_E) (av : List Value) (h : pm_H) (F : Option Value → pm_H → Prop) : Prop :=
  ∀ (l : Launch) (G : pm_G), Met l E.1 [Cond.code E.1 (pm_cc E) (pm_nL E) (pm_rt E)] (pm_rm E) (va_Pc (av.map (pm_rv G)) (fun U => pm_K G U ∧ pm_R G h U.heap))
    (fun _ _ o t => ∃ (v : Option Value) (h1 : pm_H), o = .returned (v.map (pm_rv G)) ∧ F v h1 ∧ pm_R G h1 t.heap) (pm_rm E).cells (pm_rm E).slots (fun q => G.2.2.2.2 ≤ q)
theorem pm_V.weak {E : pm_E} {pc : Nat} {L L' : List (Option Value)} {st : List Value} {h : pm_H} {b : Nat × Nat} {F : Option Value → pm_H → Prop} (k : pm_V E pc L' st h b F) (hs : ∀ (i : Nat) (v : Value), L'[i]? = some (some v) → L[i]? = some (some v)) : pm_V E pc L st h b F :=
  fun G p l e s m args below meth c H locs ls cells slots Q X hR hl hL hc hsl hE => k G p l e s m args below meth c H locs ls cells slots Q X hR hl (hL.sub hs) hc hsl hE
theorem pm_V.mono {E : pm_E} {pc : Nat} {L : List (Option Value)} {st : List Value} {h : pm_H} {b : Nat × Nat} {F F' : Option Value → pm_H → Prop} (k : pm_V E pc L st h b F) (hs : ∀ v h1, F v h1 → F' v h1) : pm_V E pc L st h b F' :=
  fun G p l e s m args below meth c H locs ls cells slots Q X hR hl hL hc hsl hE => k G p l e s m args below meth c H locs ls cells slots Q X hR hl hL hc hsl (fun v h1 hf => hE v h1 (hs v h1 hf))
theorem pm_V.bud {E : pm_E} {pc : Nat} {L : List (Option Value)} {st : List Value} {h : pm_H} {b b' : Nat × Nat} {F : Option Value → pm_H → Prop} (k : pm_V E pc L st h b' F) (h1 : b'.1 ≤ b.1) (h2 : b'.2 ≤ b.2) : pm_V E pc L st h b F :=
  fun G p l e s m args below meth c H locs ls cells slots Q X hR hl hL hc hsl hE => k G p l e s m args below meth c H locs ls cells slots Q X hR hl hL (by omega) (by omega) hE
/-- the locals with which a method begins -/
def pm_lo : List Value → List (Option Value)
  | [] => []
  | v :: vs => if v.category = 2 then some v :: none :: pm_lo vs else some v :: pm_lo vs
theorem pm_lo_args (G : pm_G) : ∀ (vs : List Value) (k i : Nat) (v : Value), (pm_lo vs)[i]? = some (some v) → (k + i, pm_rv G v) ∈ lv_args k (vs.map (pm_rv G))
  | [], k, i, v, h => by simp [pm_lo] at h
  | x :: vs, k, i, v, h => by
    unfold pm_lo at h
    simp only [List.map_cons, lv_args, pm_rv_cat]
    split at h
    · next hc =>
      match i, h with
      | 0, h => simp at h; subst h; exact List.mem_cons_self
      | 1, h => simp at h
      | i + 2, h =>
        have h' : (pm_lo vs)[i]? = some (some v) := by simpa using h
        have := pm_lo_args G vs (k + 2) i v h'
        rw [if_pos hc]
        refine List.mem_cons_of_mem _ ?_
        rw [show k + (i + 2) = k + 2 + i by omega]
        exact this
    · next hc =>
      match i, h with
      | 0, h => simp at h; subst h; exact List.mem_cons_self
      | i + 1, h =>
        have h' : (pm_lo vs)[i]? = some (some v) := by simpa using h
        have := pm_lo_args G vs (k + 1) i v h'
        rw [if_neg hc]
        refine List.mem_cons_of_mem _ ?_
        rw [show k + (i + 1) = k + 1 + i by omega]
        exact this
theorem pm_lo_len (G : pm_G) : ∀ vs : List Value, (lg_sl (vs.map (pm_rv G))).length = (pm_lo vs).length
  | [] => rfl
  | v :: vs => by
    have ih := pm_lo_len G vs
    simp only [lg_sl, List.map_cons, List.flatMap_cons, List.length_append, pm_lo, pm_rv_cat] at ih ⊢
    split <;> simp [ih] <;> omega
/-- a contract out of a run of the body -/
theorem pm_enter {E : pm_E} {av : List Value} {h : pm_H} {F : Option Value → pm_H → Prop} (hp : plainName E.1.cls = true) (hn : (pm_lo av).length ≤ pm_nL E)
    (k : pm_V E 0 (pm_lo av ++ List.replicate (pm_nL E - (pm_lo av).length) none) [] h ((pm_rm E).cells, (pm_rm E).slots) F) : pm_Cl E av h F := by
  intro l G
  refine Met.ofW (cc := pm_cc E) (maxL := pm_nL E) (ret := pm_rt E) hp rfl ?_
  intro p e s m args below meth c s₁ B hml hv
  obtain ⟨rfl, hK, hR⟩ := hv
  have hx := B.exec
  have hb := B.bytes
  have hr := B.returns
  have hown : s.vm.findClass E.1.cls = some m.cls := findClass_of_methodNamed B.named
  have hlocks := B.notSynchronized
  have hin : meth.name = E.1.name := (name_of_methodNamed B.named B.method).1
  have hlen : (lg_sl (av.map (pm_rv G))).length ≤ pm_nL E := by rw [pm_lo_len]; exact hn
  have hl := lv_entry (av.map (pm_rv G)) (n := pm_nL E) hlen
  rw [lg_entry_eq]
  generalize (lg_sl (av.map (pm_rv G)) ++ List.replicate (pm_nL E - (lg_sl (av.map (pm_rv G))).length) Slot.unset).toArray = ls at hl ⊢
  refine k G p l e s m (av.map (pm_rv G)).toArray below meth c s.heap [] ls 0 0 _ ⟨hx, hb, hml, hown, hin, hK⟩ hR (fun q hq => by cases hq) ?_ (by simp) (by simp) ?_
  · refine ⟨hl.1, hl.2.1, fun q hq => ?_⟩
    obtain ⟨x, hx, rfl⟩ := List.mem_map.mp hq
    have hx' := pm_al_mem.mp hx
    by_cases hlt : x.1 < (pm_lo av).length
    · rw [List.getElem?_append_left hlt] at hx'
      have := pm_lo_args G av 0 x.1 x.2 hx'
      rw [Nat.zero_add] at this
      exact hl.2.2 _ this
    · rw [List.getElem?_append_right (by omega)] at hx'
      have := List.eq_of_mem_replicate (List.mem_of_getElem? hx')
      cases this
  · intro v h1 hF hok H1 locs1 cells1 slots1 pc1 ls1 hR1 hl1 hc1 hs1 hd
    refine W.widen (k := (pm_rm E).cells) (n := (pm_rm E).slots) hc1 hs1 ?_
    cases v with
    | none => exact W.vret hx hb (by rw [hr]; exact hok) (fun t ht hW => ⟨none, h1, rfl, hF, by rw [ht]; exact hR1⟩) hl1 hd
    | some v =>
      cases v with
      | int x =>
        obtain ⟨ty, e1, e2⟩ := hok
        exact W.zret (ty := ty) hx hb (by rw [hr]; exact e1) e2 (fun t ht hW => ⟨some (.int x), h1, rfl, hF, by rw [ht]; exact hR1⟩) hl1 hd
      | long x => exact W.lret hx hb (by rw [hr]; exact hok) (fun t ht hW => ⟨some (.long x), h1, rfl, hF, by rw [ht]; exact hR1⟩) hl1 hd
      | ref a =>
        obtain ⟨n, e1⟩ := hok
        exact W.aret (rt := .object n) hx hb (by rw [hr]; exact e1) (Or.inl ⟨n, rfl⟩) (Or.inr ⟨_, rfl⟩) (fun t ht hW => ⟨some (.ref a), h1, rfl, hF, by rw [ht]; exact hR1⟩) hl1 hd
      | null =>
        obtain ⟨n, e1⟩ := hok
        exact W.aret (rt := .object n) hx hb (by rw [hr]; exact e1) (Or.inl ⟨n, rfl⟩) (Or.inl rfl) (fun t ht hW => ⟨some .null, h1, rfl, hF, by rw [ht]; exact hR1⟩) hl1 hd
      | float x => exact hok.elim
      | double x => exact hok.elim
      | retAddr x => exact hok.elim
def pm_D (E : pm_E) (pc n : Nat) (i : Instr) (q : Nat) : Prop := decode (pm_cc E) pc = .ok (i, n) ∧ pc + n = q
def pm_B (E : pm_E) (pc : Nat) (i : Int → Instr) (t q : Nat) : Prop := ∃ off : Int, decode (pm_cc E) pc = .ok (i off, 3) ∧ (pc : Int) + off = (t : Int) ∧ pc + 3 = q
/-- an instruction that lays a constant on the stack -/
def pm_P (E : pm_E) (pc : Nat) (v : Int32) (q : Nat) : Prop := (∃ n : Int, decode (pm_cc E) pc = .ok (.iconst n, 1) ∧ Int32.ofInt n = v ∧ pc + 1 = q) ∨ (∃ n : Int, decode (pm_cc E) pc = .ok (.bipush n, 2) ∧ (Int8.ofInt n).toInt32 = v ∧ pc + 2 = q) ∨ (∃ n : Int, decode (pm_cc E) pc = .ok (.sipush n, 3) ∧ (Int16.ofInt n).toInt32 = v ∧ pc + 3 = q) ∨ (∃ i : Nat, decode (pm_cc E) pc = .ok (.ldc i, 2) ∧ Cond.constant E.1.cls i v ∈ pm_tbl ∧ pc + 2 = q) ∨ (∃ i : Nat, decode (pm_cc E) pc = .ok (.ldc_w i, 3) ∧ Cond.constant E.1.cls i v ∈ pm_tbl ∧ pc + 3 = q)
def pm_PL (E : pm_E) (pc : Nat) (v : Int64) (q : Nat) : Prop := (∃ n : Fin 2, decode (pm_cc E) pc = .ok (.lconst n, 1) ∧ Int64.ofNat (n : Nat) = v ∧ pc + 1 = q) ∨ (∃ i : Nat, decode (pm_cc E) pc = .ok (.ldc2_w i, 3) ∧ Cond.constantLong E.1.cls i v ∈ pm_tbl ∧ pc + 3 = q)
def pm_i (E : pm_E) (pc : Nat) (f : Fin 4 → Instr) (g : Nat → Instr) (i q : Nat) : Prop := (∃ k : Fin 4, decode (pm_cc E) pc = .ok (f k, 1) ∧ (k : Nat) = i ∧ pc + 1 = q) ∨ (decode (pm_cc E) pc = .ok (g i, 2) ∧ pc + 2 = q)
section PM
variable {E : pm_E} {pc q : Nat} {L : List (Option Value)} {st : List Value} {h : pm_H} {b : Nat × Nat} {F : Option Value → pm_H → Prop}
theorem r_push {v : Int32} (hd : pm_P E pc v q) (k : pm_V E q L (.int v :: st) h b F) : pm_V E pc L st h b F := by
  intro G p l e s m args below meth c H locs ls cells slots Q X hR hl hL hc hs hE
  have k := k G p l e s m args below meth c H locs ls cells slots Q X hR hl hL hc hs hE
  rcases hd with ⟨n, d, hv, rfl⟩ | ⟨n, d, hv, rfl⟩ | ⟨n, d, hv, rfl⟩ | ⟨i, d, hv, rfl⟩ | ⟨i, d, hv, rfl⟩
  · exact lv_iconst X.1 X.2.1 d hv k
  · exact lv_bipush X.1 X.2.1 d hv k
  · exact lv_sipush X.1 X.2.1 d hv k
  · exact lv_ldc X.1 X.2.1 X.2.2.2.1 (X.2.2.2.2.2.2.1 _ hv args) d k
  · exact lv_ldcw X.1 X.2.1 X.2.2.2.1 (X.2.2.2.2.2.2.1 _ hv args) d k
theorem r_pushl {v : Int64} (hd : pm_PL E pc v q) (k : pm_V E q L (.long v :: st) h b F) : pm_V E pc L st h b F := by
  intro G p l e s m args below meth c H locs ls cells slots Q X hR hl hL hc hs hE
  have k := k G p l e s m args below meth c H locs ls cells slots Q X hR hl hL hc hs hE
  rcases hd with ⟨n, d, hv, rfl⟩ | ⟨i, d, hv, rfl⟩
  · exact lv_lconst X.1 X.2.1 d hv k
  · exact lv_ldc2 X.1 X.2.1 X.2.2.2.1 (X.2.2.2.2.2.2.1 _ hv args) d k
theorem r_null (hd : pm_D E pc 1 .aconst_null q) (k : pm_V E q L (.null :: st) h b F) : pm_V E pc L st h b F := by
  intro G p l e s m args below meth c H locs ls cells slots Q X hR hl hL hc hs hE
  obtain ⟨d, rfl⟩ := hd
  exact lv_null X.1 X.2.1 d (k G p l e s m args below meth c H locs ls cells slots Q X hR hl hL hc hs hE)
theorem r_iloadG {i : Nat} {x : Int32} (hd : pm_i E pc .iload_n .iload i q) (e0 : L[i]? = some (some (.int x))) (k : pm_V E q L (.int x :: st) h b F) : pm_V E pc L st h b F := by
  intro G p l e s m args below meth c H locs ls cells slots Q X hR hl hL hc hs hE
  have k := k G p l e s m args below meth c H locs ls cells slots Q X hR hl hL hc hs hE
  rcases hd with ⟨n, d, hv, rfl⟩ | ⟨d, rfl⟩
  · exact lv_iload_n X.1 X.2.1 d hv (hL.at e0) k
  · exact lv_iload X.1 X.2.1 d (hL.at e0) k
theorem r_lloadG {i : Nat} {x : Int64} (hd : pm_i E pc .lload_n .lload i q) (e0 : L[i]? = some (some (.long x))) (k : pm_V E q L (.long x :: st) h b F) : pm_V E pc L st h b F := by
  intro G p l e s m args below meth c H locs ls cells slots Q X hR hl hL hc hs hE
  have k := k G p l e s m args below meth c H locs ls cells slots Q X hR hl hL hc hs hE
  rcases hd with ⟨n, d, hv, rfl⟩ | ⟨d, rfl⟩
  · exact lv_lload_n X.1 X.2.1 d hv (hL.at e0) k
  · exact lv_lload X.1 X.2.1 d (hL.at e0) k
theorem r_aloadG {i : Nat} {x : Nat} (hd : pm_i E pc .aload_n .aload i q) (e0 : L[i]? = some (some (.ref x))) (k : pm_V E q L (.ref x :: st) h b F) : pm_V E pc L st h b F := by
  intro G p l e s m args below meth c H locs ls cells slots Q X hR hl hL hc hs hE
  have k := k G p l e s m args below meth c H locs ls cells slots Q X hR hl hL hc hs hE
  rcases hd with ⟨n, d, hv, rfl⟩ | ⟨d, rfl⟩
  · exact lv_aload_n X.1 X.2.1 d hv (hL.at e0) k
  · exact lv_aload X.1 X.2.1 d (hL.at e0) k
theorem r_aloadNG {i : Nat} (hd : pm_i E pc .aload_n .aload i q) (e0 : L[i]? = some (some .null)) (k : pm_V E q L (.null :: st) h b F) : pm_V E pc L st h b F := by
  intro G p l e s m args below meth c H locs ls cells slots Q X hR hl hL hc hs hE
  have k := k G p l e s m args below meth c H locs ls cells slots Q X hR hl hL hc hs hE
  rcases hd with ⟨n, d, hv, rfl⟩ | ⟨d, rfl⟩
  · exact lv_aload_nN X.1 X.2.1 d hv (hL.at e0) k
  · exact lv_aloadN X.1 X.2.1 d (hL.at e0) k
theorem r_istoreG {i : Nat} {x : Int32} (hd : pm_i E pc .istore_n .istore i q) (hi : i < pm_nL E) (hn : ∀ w, L[i - 1]? = some (some w) → w.category = 1) (k : pm_V E q (L.set i (some (.int x))) st h b F) : pm_V E pc L (.int x :: st) h b F := by
  intro G p l e s m args below meth c H locs ls cells slots Q X hR hl hL hc hs hE
  rcases hd with ⟨n, d, hv, rfl⟩ | ⟨d, rfl⟩
  · exact lv_istore_n X.1 X.2.1 d hv hL hi rfl (fun ls' h' => k G p l e s m args below meth c H locs ls' cells slots Q X hR hl (pm_L.st1 (v := .int x) h' hn) hc hs hE)
  · exact lv_istore X.1 X.2.1 d hL hi rfl (fun ls' h' => k G p l e s m args below meth c H locs ls' cells slots Q X hR hl (pm_L.st1 (v := .int x) h' hn) hc hs hE)
theorem r_astoreG {i : Nat} {x : Nat} (hd : pm_i E pc .astore_n .astore i q) (hi : i < pm_nL E) (hn : ∀ w, L[i - 1]? = some (some w) → w.category = 1) (k : pm_V E q (L.set i (some (.ref x))) st h b F) : pm_V E pc L (.ref x :: st) h b F := by
  intro G p l e s m args below meth c H locs ls cells slots Q X hR hl hL hc hs hE
  rcases hd with ⟨n, d, hv, rfl⟩ | ⟨d, rfl⟩
  · exact lv_astore_n X.1 X.2.1 d hv hL hi rfl (fun ls' h' => k G p l e s m args below meth c H locs ls' cells slots Q X hR hl (pm_L.st1 (v := .ref x) h' hn) hc hs hE)
  · exact lv_astore X.1 X.2.1 d hL hi rfl (fun ls' h' => k G p l e s m args below meth c H locs ls' cells slots Q X hR hl (pm_L.st1 (v := .ref x) h' hn) hc hs hE)
theorem r_astoreNG {i : Nat} (hd : pm_i E pc .astore_n .astore i q) (hi : i < pm_nL E) (hn : ∀ w, L[i - 1]? = some (some w) → w.category = 1) (k : pm_V E q (L.set i (some .null)) st h b F) : pm_V E pc L (.null :: st) h b F := by
  intro G p l e s m args below meth c H locs ls cells slots Q X hR hl hL hc hs hE
  rcases hd with ⟨n, d, hv, rfl⟩ | ⟨d, rfl⟩
  · exact lv_astore_nN X.1 X.2.1 d hv hL hi rfl (fun ls' h' => k G p l e s m args below meth c H locs ls' cells slots Q X hR hl (pm_L.st1 (v := .null) h' hn) hc hs hE)
  · exact lv_astoreN X.1 X.2.1 d hL hi rfl (fun ls' h' => k G p l e s m args below meth c H locs ls' cells slots Q X hR hl (pm_L.st1 (v := .null) h' hn) hc hs hE)
theorem r_lstoreG {i : Nat} {x : Int64} (hd : pm_i E pc .lstore_n .lstore i q) (hi : i + 1 < pm_nL E) (hn : ∀ w, L[i - 1]? = some (some w) → w.category = 1) (k : pm_V E q ((L.set i (some (.long x))).set (i + 1) none) st h b F) : pm_V E pc L (.long x :: st) h b F := by
  intro G p l e s m args below meth c H locs ls cells slots Q X hR hl hL hc hs hE
  rcases hd with ⟨n, d, hv, rfl⟩ | ⟨d, rfl⟩
  · exact lv_lstore_n X.1 X.2.1 d hv hL hi rfl (fun ls' h' => k G p l e s m args below meth c H locs ls' cells slots Q X hR hl (pm_L.st2 (v := .long x) h' hn) hc hs hE)
  · exact lv_lstore X.1 X.2.1 d hL hi rfl (fun ls' h' => k G p l e s m args below meth c H locs ls' cells slots Q X hR hl (pm_L.st2 (v := .long x) h' hn) hc hs hE)
def pm_I (E : pm_E) (pc i : Nat) (n : Int32) (q : Nat) : Prop := ∃ z : Int, decode (pm_cc E) pc = .ok (.iinc i z, 3) ∧ Int32.ofInt z = n ∧ pc + 3 = q
theorem r_iincG {i : Nat} {x n : Int32} (hd : pm_I E pc i n q) (e0 : L[i]? = some (some (.int x))) (hi : i < pm_nL E) (hn : ∀ w, L[i - 1]? = some (some w) → w.category = 1) (k : pm_V E q (L.set i (some (.int (x + n)))) st h b F) : pm_V E pc L st h b F := by
  intro G p l e s m args below meth c H locs ls cells slots Q X hR hl hL hc hs hE
  obtain ⟨z, d, hz, rfl⟩ := hd
  have hm : (i, pm_rv G (.int x)) ∈ (pm_al L).map (fun q => (q.1, pm_rv G q.2)) := List.mem_map.mpr ⟨(i, .int x), pm_al_mem.mpr e0, rfl⟩
  obtain ⟨j, hj⟩ := List.mem_iff_getElem?.mp hm
  exact lv_iinc X.1 X.2.1 d hL hj (v := x + n) (by rw [hz]) hi rfl (fun ls' h' => k G p l e s m args below meth c H locs ls' cells slots Q X hR hl (pm_L.st1 (v := .int (x + n)) h' hn) hc hs hE)
theorem r_iload_0 {R : List (Option Value)} {x : Int32} (hd : pm_i E pc .iload_n .iload 0 q) (k : pm_V E q (some (.int x) :: R) (.int x :: st) h b F) : pm_V E pc (some (.int x) :: R) st h b F := r_iloadG hd rfl k
theorem r_lload_0 {R : List (Option Value)} {x : Int64} (hd : pm_i E pc .lload_n .lload 0 q) (k : pm_V E q (some (.long x) :: R) (.long x :: st) h b F) : pm_V E pc (some (.long x) :: R) st h b F := r_lloadG hd rfl k
theorem r_aload_0 {R : List (Option Value)} {x : Nat} (hd : pm_i E pc .aload_n .aload 0 q) (k : pm_V E q (some (.ref x) :: R) (.ref x :: st) h b F) : pm_V E pc (some (.ref x) :: R) st h b F := r_aloadG hd rfl k
theorem r_aloadN_0 {R : List (Option Value)} (hd : pm_i E pc .aload_n .aload 0 q) (k : pm_V E q (some .null :: R) (.null :: st) h b F) : pm_V E pc (some .null :: R) st h b F := r_aloadNG hd rfl k
theorem r_istore_0 {o : Option Value} {R : List (Option Value)} {x : Int32} (hd : pm_i E pc .istore_n .istore 0 q) (hi : 0 < pm_nL E) (hn : ∀ w, o = some w → w.category = 1) (k : pm_V E q (some (.int x) :: R) st h b F) : pm_V E pc (o :: R) (.int x :: st) h b F := r_istoreG hd hi (fun w hw => hn w (Option.some.inj hw)) k
theorem r_astore_0 {o : Option Value} {R : List (Option Value)} {x : Nat} (hd : pm_i E pc .astore_n .astore 0 q) (hi : 0 < pm_nL E) (hn : ∀ w, o = some w → w.category = 1) (k : pm_V E q (some (.ref x) :: R) st h b F) : pm_V E pc (o :: R) (.ref x :: st) h b F := r_astoreG hd hi (fun w hw => hn w (Option.some.inj hw)) k
theorem r_astoreN_0 {o : Option Value} {R : List (Option Value)} (hd : pm_i E pc .astore_n .astore 0 q) (hi : 0 < pm_nL E) (hn : ∀ w, o = some w → w.category = 1) (k : pm_V E q (some (.null) :: R) st h b F) : pm_V E pc (o :: R) (.null :: st) h b F := r_astoreNG hd hi (fun w hw => hn w (Option.some.inj hw)) k
theorem r_lstore_0 {o o2 : Option Value} {R : List (Option Value)} {x : Int64} (hd : pm_i E pc .lstore_n .lstore 0 q) (hi : 1 < pm_nL E) (hn : ∀ w, o = some w → w.category = 1) (k : pm_V E q (some (.long x) :: none :: R) st h b F) : pm_V E pc (o :: o2 :: R) (.long x :: st) h b F := r_lstoreG hd hi (fun w hw => hn w (Option.some.inj hw)) k
theorem r_iinc_0 {R : List (Option Value)} {x n : Int32} (hd : pm_I E pc 0 n q) (hi : 0 < pm_nL E) (k : pm_V E q (some (.int (x + n)) :: R) st h b F) : pm_V E pc (some (.int x) :: R) st h b F := r_iincG hd rfl hi (fun w hw => by cases hw; rfl) k
theorem r_iload_1 {l0 : Option Value} {R : List (Option Value)} {x : Int32} (hd : pm_i E pc .iload_n .iload 1 q) (k : pm_V E q (l0 :: some (.int x) :: R) (.int x :: st) h b F) : pm_V E pc (l0 :: some (.int x) :: R) st h b F := r_iloadG hd rfl k
theorem r_lload_1 {l0 : Option Value} {R : List (Option Value)} {x : Int64} (hd : pm_i E pc .lload_n .lload 1 q) (k : pm_V E q (l0 :: some (.long x) :: R) (.long x :: st) h b F) : pm_V E pc (l0 :: some (.long x) :: R) st h b F := r_lloadG hd rfl k
theorem r_aload_1 {l0 : Option Value} {R : List (Option Value)} {x : Nat} (hd : pm_i E pc .aload_n .aload 1 q) (k : pm_V E q (l0 :: some (.ref x) :: R) (.ref x :: st) h b F) : pm_V E pc (l0 :: some (.ref x) :: R) st h b F := r_aloadG hd rfl k
theorem r_aloadN_1 {l0 : Option Value} {R : List (Option Value)} (hd : pm_i E pc .aload_n .aload 1 q) (k : pm_V E q (l0 :: some .null :: R) (.null :: st) h b F) : pm_V E pc (l0 :: some .null :: R) st h b F := r_aloadNG hd rfl k
theorem r_istore_1 {l0 : Option Value} {o : Option Value} {R : List (Option Value)} {x : Int32} (hd : pm_i E pc .istore_n .istore 1 q) (hi : 1 < pm_nL E) (hn : ∀ w, l0 = some w → w.category = 1) (k : pm_V E q (l0 :: some (.int x) :: R) st h b F) : pm_V E pc (l0 :: o :: R) (.int x :: st) h b F := r_istoreG hd hi (fun w hw => hn w (Option.some.inj hw)) k
theorem r_astore_1 {l0 : Option Value} {o : Option Value} {R : List (Option Value)} {x : Nat} (hd : pm_i E pc .astore_n .astore 1 q) (hi : 1 < pm_nL E) (hn : ∀ w, l0 = some w → w.category = 1) (k : pm_V E q (l0 :: some (.ref x) :: R) st h b F) : pm_V E pc (l0 :: o :: R) (.ref x :: st) h b F := r_astoreG hd hi (fun w hw => hn w (Option.some.inj hw)) k
theorem r_astoreN_1 {l0 : Option Value} {o : Option Value} {R : List (Option Value)} (hd : pm_i E pc .astore_n .astore 1 q) (hi : 1 < pm_nL E) (hn : ∀ w, l0 = some w → w.category = 1) (k : pm_V E q (l0 :: some (.null) :: R) st h b F) : pm_V E pc (l0 :: o :: R) (.null :: st) h b F := r_astoreNG hd hi (fun w hw => hn w (Option.some.inj hw)) k
theorem r_lstore_1 {l0 : Option Value} {o o2 : Option Value} {R : List (Option Value)} {x : Int64} (hd : pm_i E pc .lstore_n .lstore 1 q) (hi : 2 < pm_nL E) (hn : ∀ w, l0 = some w → w.category = 1) (k : pm_V E q (l0 :: some (.long x) :: none :: R) st h b F) : pm_V E pc (l0 :: o :: o2 :: R) (.long x :: st) h b F := r_lstoreG hd hi (fun w hw => hn w (Option.some.inj hw)) k
theorem r_iinc_1 {l0 : Option Value} {R : List (Option Value)} {x n : Int32} (hd : pm_I E pc 1 n q) (hi : 1 < pm_nL E) (hn : ∀ w, l0 = some w → w.category = 1) (k : pm_V E q (l0 :: some (.int (x + n)) :: R) st h b F) : pm_V E pc (l0 :: some (.int x) :: R) st h b F := r_iincG hd rfl hi (fun w hw => hn w (Option.some.inj hw)) k
theorem r_iload_2 {l0 l1 : Option Value} {R : List (Option Value)} {x : Int32} (hd : pm_i E pc .iload_n .iload 2 q) (k : pm_V E q (l0 :: l1 :: some (.int x) :: R) (.int x :: st) h b F) : pm_V E pc (l0 :: l1 :: some (.int x) :: R) st h b F := r_iloadG hd rfl k
theorem r_lload_2 {l0 l1 : Option Value} {R : List (Option Value)} {x : Int64} (hd : pm_i E pc .lload_n .lload 2 q) (k : pm_V E q (l0 :: l1 :: some (.long x) :: R) (.long x :: st) h b F) : pm_V E pc (l0 :: l1 :: some (.long x) :: R) st h b F := r_lloadG hd rfl k
theorem r_aload_2 {l0 l1 : Option Value} {R : List (Option Value)} {x : Nat} (hd : pm_i E pc .aload_n .aload 2 q) (k : pm_V E q (l0 :: l1 :: some (.ref x) :: R) (.ref x :: st) h b F) : pm_V E pc (l0 :: l1 :: some (.ref x) :: R) st h b F := r_aloadG hd rfl k
theorem r_aloadN_2 {l0 l1 : Option Value} {R : List (Option Value)} (hd : pm_i E pc .aload_n .aload 2 q) (k : pm_V E q (l0 :: l1 :: some .null :: R) (.null :: st) h b F) : pm_V E pc (l0 :: l1 :: some .null :: R) st h b F := r_aloadNG hd rfl k
theorem r_istore_2 {l0 l1 : Option Value} {o : Option Value} {R : List (Option Value)} {x : Int32} (hd : pm_i E pc .istore_n .istore 2 q) (hi : 2 < pm_nL E) (hn : ∀ w, l1 = some w → w.category = 1) (k : pm_V E q (l0 :: l1 :: some (.int x) :: R) st h b F) : pm_V E pc (l0 :: l1 :: o :: R) (.int x :: st) h b F := r_istoreG hd hi (fun w hw => hn w (Option.some.inj hw)) k
theorem r_astore_2 {l0 l1 : Option Value} {o : Option Value} {R : List (Option Value)} {x : Nat} (hd : pm_i E pc .astore_n .astore 2 q) (hi : 2 < pm_nL E) (hn : ∀ w, l1 = some w → w.category = 1) (k : pm_V E q (l0 :: l1 :: some (.ref x) :: R) st h b F) : pm_V E pc (l0 :: l1 :: o :: R) (.ref x :: st) h b F := r_astoreG hd hi (fun w hw => hn w (Option.some.inj hw)) k
theorem r_astoreN_2 {l0 l1 : Option Value} {o : Option Value} {R : List (Option Value)} (hd : pm_i E pc .astore_n .astore 2 q) (hi : 2 < pm_nL E) (hn : ∀ w, l1 = some w → w.category = 1) (k : pm_V E q (l0 :: l1 :: some (.null) :: R) st h b F) : pm_V E pc (l0 :: l1 :: o :: R) (.null :: st) h b F := r_astoreNG hd hi (fun w hw => hn w (Option.some.inj hw)) k
theorem r_lstore_2 {l0 l1 : Option Value} {o o2 : Option Value} {R : List (Option Value)} {x : Int64} (hd : pm_i E pc .lstore_n .lstore 2 q) (hi : 3 < pm_nL E) (hn : ∀ w, l1 = some w → w.category = 1) (k : pm_V E q (l0 :: l1 :: some (.long x) :: none :: R) st h b F) : pm_V E pc (l0 :: l1 :: o :: o2 :: R) (.long x :: st) h b F := r_lstoreG hd hi (fun w hw => hn w (Option.some.inj hw)) k
theorem r_iinc_2 {l0 l1 : Option Value} {R : List (Option Value)} {x n : Int32} (hd : pm_I E pc 2 n q) (hi : 2 < pm_nL E) (hn : ∀ w, l1 = some w → w.category = 1) (k : pm_V E q (l0 :: l1 :: some (.int (x + n)) :: R) st h b F) : pm_V E pc (l0 :: l1 :: some (.int x) :: R) st h b F := r_iincG hd rfl hi (fun w hw => hn w (Option.some.inj hw)) k
theorem r_iload_3 {l0 l1 l2 : Option Value} {R : List (Option Value)} {x : Int32} (hd : pm_i E pc .iload_n .iload 3 q) (k : pm_V E q (l0 :: l1 :: l2 :: some (.int x) :: R) (.int x :: st) h b F) : pm_V E pc (l0 :: l1 :: l2 :: some (.int x) :: R) st h b F := r_iloadG hd rfl k
theorem r_lload_3 {l0 l1 l2 : Option Value} {R : List (Option Value)} {x : Int64} (hd : pm_i E pc .lload_n .lload 3 q) (k : pm_V E q (l0 :: l1 :: l2 :: some (.long x) :: R) (.long x :: st) h b F) : pm_V E pc (l0 :: l1 :: l2 :: some (.long x) :: R) st h b F := r_lloadG hd rfl k
theorem r_aload_3 {l0 l1 l2 : Option Value} {R : List (Option Value)} {x : Nat} (hd : pm_i E pc .aload_n .aload 3 q) (k : pm_V E q (l0 :: l1 :: l2 :: some (.ref x) :: R) (.ref x :: st) h b F) : pm_V E pc (l0 :: l1 :: l2 :: some (.ref x) :: R) st h b F := r_aloadG hd rfl k
theorem r_aloadN_3 {l0 l1 l2 : Option Value} {R : List (Option Value)} (hd : pm_i E pc .aload_n .aload 3 q) (k : pm_V E q (l0 :: l1 :: l2 :: some .null :: R) (.null :: st) h b F) : pm_V E pc (l0 :: l1 :: l2 :: some .null :: R) st h b F := r_aloadNG hd rfl k
theorem r_istore_3 {l0 l1 l2 : Option Value} {o : Option Value} {R : List (Option Value)} {x : Int32} (hd : pm_i E pc .istore_n .istore 3 q) (hi : 3 < pm_nL E) (hn : ∀ w, l2 = some w → w.category = 1) (k : pm_V E q (l0 :: l1 :: l2 :: some (.int x) :: R) st h b F) : pm_V E pc (l0 :: l1 :: l2 :: o :: R) (.int x :: st) h b F := r_istoreG hd hi (fun w hw => hn w (Option.some.inj hw)) k
theorem r_astore_3 {l0 l1 l2 : Option Value} {o : Option Value} {R : List (Option Value)} {x : Nat} (hd : pm_i E pc .astore_n .astore 3 q) (hi : 3 < pm_nL E) (hn : ∀ w, l2 = some w → w.category = 1) (k : pm_V E q (l0 :: l1 :: l2 :: some (.ref x) :: R) st h b F) : pm_V E pc (l0 :: l1 :: l2 :: o :: R) (.ref x :: st) h b F := r_astoreG hd hi (fun w hw => hn w (Option.some.inj hw)) k
theorem r_astoreN_3 {l0 l1 l2 : Option Value} {o : Option Value} {R : List (Option Value)} (hd : pm_i E pc .astore_n .astore 3 q) (hi : 3 < pm_nL E) (hn : ∀ w, l2 = some w → w.category = 1) (k : pm_V E q (l0 :: l1 :: l2 :: some (.null) :: R) st h b F) : pm_V E pc (l0 :: l1 :: l2 :: o :: R) (.null :: st) h b F := r_astoreNG hd hi (fun w hw => hn w (Option.some.inj hw)) k
theorem r_lstore_3 {l0 l1 l2 : Option Value} {o o2 : Option Value} {R : List (Option Value)} {x : Int64} (hd : pm_i E pc .lstore_n .lstore 3 q) (hi : 4 < pm_nL E) (hn : ∀ w, l2 = some w → w.category = 1) (k : pm_V E q (l0 :: l1 :: l2 :: some (.long x) :: none :: R) st h b F) : pm_V E pc (l0 :: l1 :: l2 :: o :: o2 :: R) (.long x :: st) h b F := r_lstoreG hd hi (fun w hw => hn w (Option.some.inj hw)) k
theorem r_iinc_3 {l0 l1 l2 : Option Value} {R : List (Option Value)} {x n : Int32} (hd : pm_I E pc 3 n q) (hi : 3 < pm_nL E) (hn : ∀ w, l2 = some w → w.category = 1) (k : pm_V E q (l0 :: l1 :: l2 :: some (.int (x + n)) :: R) st h b F) : pm_V E pc (l0 :: l1 :: l2 :: some (.int x) :: R) st h b F := r_iincG hd rfl hi (fun w hw => hn w (Option.some.inj hw)) k
theorem r_iload_4 {l0 l1 l2 l3 : Option Value} {R : List (Option Value)} {x : Int32} (hd : pm_i E pc .iload_n .iload 4 q) (k : pm_V E q (l0 :: l1 :: l2 :: l3 :: some (.int x) :: R) (.int x :: st) h b F) : pm_V E pc (l0 :: l1 :: l2 :: l3 :: some (.int x) :: R) st h b F := r_iloadG hd rfl k
theorem r_lload_4 {l0 l1 l2 l3 : Option Value} {R : List (Option Value)} {x : Int64} (hd : pm_i E pc .lload_n .lload 4 q) (k : pm_V E q (l0 :: l1 :: l2 :: l3 :: some (.long x) :: R) (.long x :: st) h b F) : pm_V E pc (l0 :: l1 :: l2 :: l3 :: some (.long x) :: R) st h b F := r_lloadG hd rfl k
theorem r_aload_4 {l0 l1 l2 l3 : Option Value} {R : List (Option Value)} {x : Nat} (hd : pm_i E pc .aload_n .aload 4 q) (k : pm_V E q (l0 :: l1 :: l2 :: l3 :: some (.ref x) :: R) (.ref x :: st) h b F) : pm_V E pc (l0 :: l1 :: l2 :: l3 :: some (.ref x) :: R) st h b F := r_aloadG hd rfl k
theorem r_aloadN_4 {l0 l1 l2 l3 : Option Value} {R : List (Option Value)} (hd : pm_i E pc .aload_n .aload 4 q) (k : pm_V E q (l0 :: l1 :: l2 :: l3 :: some .null :: R) (.null :: st) h b F) : pm_V E pc (l0 :: l1 :: l2 :: l3 :: some .null :: R) st h b F := r_aloadNG hd rfl k
theorem r_istore_4 {l0 l1 l2 l3 : Option Value} {o : Option Value} {R : List (Option Value)} {x : Int32} (hd : pm_i E pc .istore_n .istore 4 q) (hi : 4 < pm_nL E) (hn : ∀ w, l3 = some w → w.category = 1) (k : pm_V E q (l0 :: l1 :: l2 :: l3 :: some (.int x) :: R) st h b F) : pm_V E pc (l0 :: l1 :: l2 :: l3 :: o :: R) (.int x :: st) h b F := r_istoreG hd hi (fun w hw => hn w (Option.some.inj hw)) k
theorem r_astore_4 {l0 l1 l2 l3 : Option Value} {o : Option Value} {R : List (Option Value)} {x : Nat} (hd : pm_i E pc .astore_n .astore 4 q) (hi : 4 < pm_nL E) (hn : ∀ w, l3 = some w → w.category = 1) (k : pm_V E q (l0 :: l1 :: l2 :: l3 :: some (.ref x) :: R) st h b F) : pm_V E pc (l0 :: l1 :: l2 :: l3 :: o :: R) (.ref x :: st) h b F := r_astoreG hd hi (fun w hw => hn w (Option.some.inj hw)) k
theorem r_astoreN_4 {l0 l1 l2 l3 : Option Value} {o : Option Value} {R : List (Option Value)} (hd : pm_i E pc .astore_n .astore 4 q) (hi : 4 < pm_nL E) (hn : ∀ w, l3 = some w → w.category = 1) (k : pm_V E q (l0 :: l1 :: l2 :: l3 :: some (.null) :: R) st h b F) : pm_V E pc (l0 :: l1 :: l2 :: l3 :: o :: R) (.null :: st) h b F := r_astoreNG hd hi (fun w hw => hn w (Option.some.inj hw)) k
theorem r_lstore_4 {l0 l1 l2 l3 : Option Value} {o o2 : Option Value} {R : List (Option Value)} {x : Int64} (hd : pm_i E pc .lstore_n .lstore 4 q) (hi : 5 < pm_nL E) (hn : ∀ w, l3 = some w → w.category = 1) (k : pm_V E q (l0 :: l1 :: l2 :: l3 :: some (.long x) :: none :: R) st h b F) : pm_V E pc (l0 :: l1 :: l2 :: l3 :: o :: o2 :: R) (.long x :: st) h b F := r_lstoreG hd hi (fun w hw => hn w (Option.some.inj hw)) k
theorem r_iinc_4 {l0 l1 l2 l3 : Option Value} {R : List (Option Value)} {x n : Int32} (hd : pm_I E pc 4 n q) (hi : 4 < pm_nL E) (hn : ∀ w, l3 = some w → w.category = 1) (k : pm_V E q (l0 :: l1 :: l2 :: l3 :: some (.int (x + n)) :: R) st h b F) : pm_V E pc (l0 :: l1 :: l2 :: l3 :: some (.int x) :: R) st h b F := r_iincG hd rfl hi (fun w hw => hn w (Option.some.inj hw)) k
theorem r_iload_5 {l0 l1 l2 l3 l4 : Option Value} {R : List (Option Value)} {x : Int32} (hd : pm_i E pc .iload_n .iload 5 q) (k : pm_V E q (l0 :: l1 :: l2 :: l3 :: l4 :: some (.int x) :: R) (.int x :: st) h b F) : pm_V E pc (l0 :: l1 :: l2 :: l3 :: l4 :: some (.int x) :: R) st h b F := r_iloadG hd rfl k
theorem r_lload_5 {l0 l1 l2 l3 l4 : Option Value} {R : List (Option Value)} {x : Int64} (hd : pm_i E pc .lload_n .lload 5 q) (k : pm_V E q (l0 :: l1 :: l2 :: l3 :: l4 :: some (.long x) :: R) (.long x :: st) h b F) : pm_V E pc (l0 :: l1 :: l2 :: l3 :: l4 :: some (.long x) :: R) st h b F := r_lloadG hd rfl k
theorem r_aload_5 {l0 l1 l2 l3 l4 : Option Value} {R : List (Option Value)} {x : Nat} (hd : pm_i E pc .aload_n .aload 5 q) (k : pm_V E q (l0 :: l1 :: l2 :: l3 :: l4 :: some (.ref x) :: R) (.ref x :: st) h b F) : pm_V E pc (l0 :: l1 :: l2 :: l3 :: l4 :: some (.ref x) :: R) st h b F := r_aloadG hd rfl k
theorem r_aloadN_5 {l0 l1 l2 l3 l4 : Option Value} {R : List (Option Value)} (hd : pm_i E pc .aload_n .aload 5 q) (k : pm_V E q (l0 :: l1 :: l2 :: l3 :: l4 :: some .null :: R) (.null :: st) h b F) : pm_V E pc (l0 :: l1 :: l2 :: l3 :: l4 :: some .null :: R) st h b F := r_aloadNG hd rfl k
theorem r_istore_5 {l0 l1 l2 l3 l4 : Option Value} {o : Option Value} {R : List (Option Value)} {x : Int32} (hd : pm_i E pc .istore_n .istore 5 q) (hi : 5 < pm_nL E) (hn : ∀ w, l4 = some w → w.category = 1) (k : pm_V E q (l0 :: l1 :: l2 :: l3 :: l4 :: some (.int x) :: R) st h b F) : pm_V E pc (l0 :: l1 :: l2 :: l3 :: l4 :: o :: R) (.int x :: st) h b F := r_istoreG hd hi (fun w hw => hn w (Option.some.inj hw)) k
theorem r_astore_5 {l0 l1 l2 l3 l4 : Option Value} {o : Option Value} {R : List (Option Value)} {x : Nat} (hd : pm_i E pc .astore_n .astore 5 q) (hi : 5 < pm_nL E) (hn : ∀ w, l4 = some w → w.category = 1) (k : pm_V E q (l0 :: l1 :: l2 :: l3 :: l4 :: some (.ref x) :: R) st h b F) : pm_V E pc (l0 :: l1 :: l2 :: l3 :: l4 :: o :: R) (.ref x :: st) h b F := r_astoreG hd hi (fun w hw => hn w (Option.some.inj hw)) k
theorem r_astoreN_5 {l0 l1 l2 l3 l4 : Option Value} {o : Option Value} {R : List (Option Value)} (hd : pm_i E pc .astore_n .astore 5 q) (hi : 5 < pm_nL E) (hn : ∀ w, l4 = some w → w.category = 1) (k : pm_V E q (l0 :: l1 :: l2 :: l3 :: l4 :: some (.null) :: R) st h b F) : pm_V E pc (l0 :: l1 :: l2 :: l3 :: l4 :: o :: R) (.null :: st) h b F := r_astoreNG hd hi (fun w hw => hn w (Option.some.inj hw)) k
theorem r_lstore_5 {l0 l1 l2 l3 l4 : Option Value} {o o2 : Option Value} {R : List (Option Value)} {x : Int64} (hd : pm_i E pc .lstore_n .lstore 5 q) (hi : 6 < pm_nL E) (hn : ∀ w, l4 = some w → w.category = 1) (k : pm_V E q (l0 :: l1 :: l2 :: l3 :: l4 :: some (.long x) :: none :: R) st h b F) : pm_V E pc (l0 :: l1 :: l2 :: l3 :: l4 :: o :: o2 :: R) (.long x :: st) h b F := r_lstoreG hd hi (fun w hw => hn w (Option.some.inj hw)) k
theorem r_iinc_5 {l0 l1 l2 l3 l4 : Option Value} {R : List (Option Value)} {x n : Int32} (hd : pm_I E pc 5 n q) (hi : 5 < pm_nL E) (hn : ∀ w, l4 = some w → w.category = 1) (k : pm_V E q (l0 :: l1 :: l2 :: l3 :: l4 :: some (.int (x + n)) :: R) st h b F) : pm_V E pc (l0 :: l1 :: l2 :: l3 :: l4 :: some (.int x) :: R) st h b F := r_iincG hd rfl hi (fun w hw => hn w (Option.some.inj hw)) k
theorem r_iload_6 {l0 l1 l2 l3 l4 l5 : Option Value} {R : List (Option Value)} {x : Int32} (hd : pm_i E pc .iload_n .iload 6 q) (k : pm_V E q (l0 :: l1 :: l2 :: l3 :: l4 :: l5 :: some (.int x) :: R) (.int x :: st) h b F) : pm_V E pc (l0 :: l1 :: l2 :: l3 :: l4 :: l5 :: some (.int x) :: R) st h b F := r_iloadG hd rfl k
theorem r_lload_6 {l0 l1 l2 l3 l4 l5 : Option Value} {R : List (Option Value)} {x : Int64} (hd : pm_i E pc .lload_n .lload 6 q) (k : pm_V E q (l0 :: l1 :: l2 :: l3 :: l4 :: l5 :: some (.long x) :: R) (.long x :: st) h b F) : pm_V E pc (l0 :: l1 :: l2 :: l3 :: l4 :: l5 :: some (.long x) :: R) st h b F := r_lloadG hd rfl k
theorem r_aload_6 {l0 l1 l2 l3 l4 l5 : Option Value} {R : List (Option Value)} {x : Nat} (hd : pm_i E pc .aload_n .aload 6 q) (k : pm_V E q (l0 :: l1 :: l2 :: l3 :: l4 :: l5 :: some (.ref x) :: R) (.ref x :: st) h b F) : pm_V E pc (l0 :: l1 :: l2 :: l3 :: l4 :: l5 :: some (.ref x) :: R) st h b F := r_aloadG hd rfl k
theorem r_aloadN_6 {l0 l1 l2 l3 l4 l5 : Option Value} {R : List (Option Value)} (hd : pm_i E pc .aload_n .aload 6 q) (k : pm_V E q (l0 :: l1 :: l2 :: l3 :: l4 :: l5 :: some .null :: R) (.null :: st) h b F) : pm_V E pc (l0 :: l1 :: l2 :: l3 :: l4 :: l5 :: some .null :: R) st h b F := r_aloadNG hd rfl k
theorem r_istore_6 {l0 l1 l2 l3 l4 l5 : Option Value} {o : Option Value} {R : List (Option Value)} {x : Int32} (hd : pm_i E pc .istore_n .istore 6 q) (hi : 6 < pm_nL E) (hn : ∀ w, l5 = some w → w.category = 1) (k : pm_V E q (l0 :: l1 :: l2 :: l3 :: l4 :: l5 :: some (.int x) :: R) st h b F) : pm_V E pc (l0 :: l1 :: l2 :: l3 :: l4 :: l5 :: o :: R) (.int x :: st) h b F := r_istoreG hd hi (fun w hw => hn w (Option.some.inj hw)) k
theorem r_astore_6 {l0 l1 l2 l3 l4 l5 : Option Value} {o : Option Value} {R : List (Option Value)} {x : Nat} (hd : pm_i E pc .astore_n .astore 6 q) (hi : 6 < pm_nL E) (hn : ∀ w, l5 = some w → w.category = 1) (k : pm_V E q (l0 :: l1 :: l2 :: l3 :: l4 :: l5 :: some (.ref x) :: R) st h b F) : pm_V E pc (l0 :: l1 :: l2 :: l3 :: l4 :: l5 :: o :: R) (.ref x :: st) h b F := r_astoreG hd hi (fun w hw => hn w (Option.some.inj hw)) k
theorem r_astoreN_6 {l0 l1 l2 l3 l4 l5 : Option Value} {o : Option Value} {R : List (Option Value)} (hd : pm_i E pc .astore_n .astore 6 q) (hi : 6 < pm_nL E) (hn : ∀ w, l5 = some w → w.category = 1) (k : pm_V E q (l0 :: l1 :: l2 :: l3 :: l4 :: l5 :: some (.null) :: R) st h b F) : pm_V E pc (l0 :: l1 :: l2 :: l3 :: l4 :: l5 :: o :: R) (.null :: st) h b F := r_astoreNG hd hi (fun w hw => hn w (Option.some.inj hw)) k
theorem r_lstore_6 {l0 l1 l2 l3 l4 l5 : Option Value} {o o2 : Option Value} {R : List (Option Value)} {x : Int64} (hd : pm_i E pc .lstore_n .lstore 6 q) (hi : 7 < pm_nL E) (hn : ∀ w, l5 = some w → w.category = 1) (k : pm_V E q (l0 :: l1 :: l2 :: l3 :: l4 :: l5 :: some (.long x) :: none :: R) st h b F) : pm_V E pc (l0 :: l1 :: l2 :: l3 :: l4 :: l5 :: o :: o2 :: R) (.long x :: st) h b F := r_lstoreG hd hi (fun w hw => hn w (Option.some.inj hw)) k
theorem r_iinc_6 {l0 l1 l2 l3 l4 l5 : Option Value} {R : List (Option Value)} {x n : Int32} (hd : pm_I E pc 6 n q) (hi : 6 < pm_nL E) (hn : ∀ w, l5 = some w → w.category = 1) (k : pm_V E q (l0 :: l1 :: l2 :: l3 :: l4 :: l5 :: some (.int (x + n)) :: R) st h b F) : pm_V E pc (l0 :: l1 :: l2 :: l3 :: l4 :: l5 :: some (.int x) :: R) st h b F := r_iincG hd rfl hi (fun w hw => hn w (Option.some.inj hw)) k
theorem r_iload_7 {l0 l1 l2 l3 l4 l5 l6 : Option Value} {R : List (Option Value)} {x : Int32} (hd : pm_i E pc .iload_n .iload 7 q) (k : pm_V E q (l0 :: l1 :: l2 :: l3 :: l4 :: l5 :: l6 :: some (.int x) :: R) (.int x :: st) h b F) : pm_V E pc (l0 :: l1 :: l2 :: l3 :: l4 :: l5 :: l6 :: some (.int x) :: R) st h b F := r_iloadG hd rfl k
theorem r_lload_7 {l0 l1 l2 l3 l4 l5 l6 : Option Value} {R : List (Option Value)} {x : Int64} (hd : pm_i E pc .lload_n .lload 7 q) (k : pm_V E q (l0 :: l1 :: l2 :: l3 :: l4 :: l5 :: l6 :: some (.long x) :: R) (.long x :: st) h b F) : pm_V E pc (l0 :: l1 :: l2 :: l3 :: l4 :: l5 :: l6 :: some (.long x) :: R) st h b F := r_lloadG hd rfl k
theorem r_aload_7 {l0 l1 l2 l3 l4 l5 l6 : Option Value} {R : List (Option Value)} {x : Nat} (hd : pm_i E pc .aload_n .aload 7 q) (k : pm_V E q (l0 :: l1 :: l2 :: l3 :: l4 :: l5 :: l6 :: some (.ref x) :: R) (.ref x :: st) h b F) : pm_V E pc (l0 :: l1 :: l2 :: l3 :: l4 :: l5 :: l6 :: some (.ref x) :: R) st h b F := r_aloadG hd rfl k
theorem r_aloadN_7 {l0 l1 l2 l3 l4 l5 l6 : Option Value} {R : List (Option Value)} (hd : pm_i E pc .aload_n .aload 7 q) (k : pm_V E q (l0 :: l1 :: l2 :: l3 :: l4 :: l5 :: l6 :: some .null :: R) (.null :: st) h b F) : pm_V E pc (l0 :: l1 :: l2 :: l3 :: l4 :: l5 :: l6 :: some .null :: R) st h b F := r_aloadNG hd rfl k
theorem r_istore_7 {l0 l1 l2 l3 l4 l5 l6 : Option Value} {o : Option Value} {R : List (Option Value)} {x : Int32} (hd : pm_i E pc .istore_n .istore 7 q) (hi : 7 < pm_nL E) (hn : ∀ w, l6 = some w → w.category = 1) (k : pm_V E q (l0 :: l1 :: l2 :: l3 :: l4 :: l5 :: l6 :: some (.int x) :: R) st h b F) : pm_V E pc (l0 :: l1 :: l2 :: l3 :: l4 :: l5 :: l6 :: o :: R) (.int x :: st) h b F := r_istoreG hd hi (fun w hw => hn w (Option.some.inj hw)) k
theorem r_astore_7 {l0 l1 l2 l3 l4 l5 l6 : Option Value} {o : Option Value} {R : List (Option Value)} {x : Nat} (hd : pm_i E pc .astore_n .astore 7 q) (hi : 7 < pm_nL E) (hn : ∀ w, l6 = some w → w.category = 1) (k : pm_V E q (l0 :: l1 :: l2 :: l3 :: l4 :: l5 :: l6 :: some (.ref x) :: R) st h b F) : pm_V E pc (l0 :: l1 :: l2 :: l3 :: l4 :: l5 :: l6 :: o :: R) (.ref x :: st) h b F := r_astoreG hd hi (fun w hw => hn w (Option.some.inj hw)) k
theorem r_astoreN_7 {l0 l1 l2 l3 l4 l5 l6 : Option Value} {o : Option Value} {R : List (Option Value)} (hd : pm_i E pc .astore_n .astore 7 q) (hi : 7 < pm_nL E) (hn : ∀ w, l6 = some w → w.category = 1) (k : pm_V E q (l0 :: l1 :: l2 :: l3 :: l4 :: l5 :: l6 :: some (.null) :: R) st h b F) : pm_V E pc (l0 :: l1 :: l2 :: l3 :: l4 :: l5 :: l6 :: o :: R) (.null :: st) h b F := r_astoreNG hd hi (fun w hw => hn w (Option.some.inj hw)) k
theorem r_lstore_7 {l0 l1 l2 l3 l4 l5 l6 : Option Value} {o o2 : Option Value} {R : List (Option Value)} {x : Int64} (hd : pm_i E pc .lstore_n .lstore 7 q) (hi : 8 < pm_nL E) (hn : ∀ w, l6 = some w → w.category = 1) (k : pm_V E q (l0 :: l1 :: l2 :: l3 :: l4 :: l5 :: l6 :: some (.long x) :: none :: R) st h b F) : pm_V E pc (l0 :: l1 :: l2 :: l3 :: l4 :: l5 :: l6 :: o :: o2 :: R) (.long x :: st) h b F := r_lstoreG hd hi (fun w hw => hn w (Option.some.inj hw)) k
theorem r_iinc_7 {l0 l1 l2 l3 l4 l5 l6 : Option Value} {R : List (Option Value)} {x n : Int32} (hd : pm_I E pc 7 n q) (hi : 7 < pm_nL E) (hn : ∀ w, l6 = some w → w.category = 1) (k : pm_V E q (l0 :: l1 :: l2 :: l3 :: l4 :: l5 :: l6 :: some (.int (x + n)) :: R) st h b F) : pm_V E pc (l0 :: l1 :: l2 :: l3 :: l4 :: l5 :: l6 :: some (.int x) :: R) st h b F := r_iincG hd rfl hi (fun w hw => hn w (Option.some.inj hw)) k
theorem r_iload_8 {l0 l1 l2 l3 l4 l5 l6 l7 : Option Value} {R : List (Option Value)} {x : Int32} (hd : pm_i E pc .iload_n .iload 8 q) (k : pm_V E q (l0 :: l1 :: l2 :: l3 :: l4 :: l5 :: l6 :: l7 :: some (.int x) :: R) (.int x :: st) h b F) : pm_V E pc (l0 :: l1 :: l2 :: l3 :: l4 :: l5 :: l6 :: l7 :: some (.int x) :: R) st h b F := r_iloadG hd rfl k
theorem r_lload_8 {l0 l1 l2 l3 l4 l5 l6 l7 : Option Value} {R : List (Option Value)} {x : Int64} (hd : pm_i E pc .lload_n .lload 8 q) (k : pm_V E q (l0 :: l1 :: l2 :: l3 :: l4 :: l5 :: l6 :: l7 :: some (.long x) :: R) (.long x :: st) h b F) : pm_V E pc (l0 :: l1 :: l2 :: l3 :: l4 :: l5 :: l6 :: l7 :: some (.long x) :: R) st h b F := r_lloadG hd rfl k
theorem r_aload_8 {l0 l1 l2 l3 l4 l5 l6 l7 : Option Value} {R : List (Option Value)} {x : Nat} (hd : pm_i E pc .aload_n .aload 8 q) (k : pm_V E q (l0 :: l1 :: l2 :: l3 :: l4 :: l5 :: l6 :: l7 :: some (.ref x) :: R) (.ref x :: st) h b F) : pm_V E pc (l0 :: l1 :: l2 :: l3 :: l4 :: l5 :: l6 :: l7 :: some (.ref x) :: R) st h b F := r_aloadG hd rfl k
theorem r_aloadN_8 {l0 l1 l2 l3 l4 l5 l6 l7 : Option Value} {R : List (Option Value)} (hd : pm_i E pc .aload_n .aload 8 q) (k : pm_V E q (l0 :: l1 :: l2 :: l3 :: l4 :: l5 :: l6 :: l7 :: some .null :: R) (.null :: st) h b F) : pm_V E pc (l0 :: l1 :: l2 :: l3 :: l4 :: l5 :: l6 :: l7 :: some .null :: R) st h b F := r_aloadNG hd rfl k
theorem r_istore_8 {l0 l1 l2 l3 l4 l5 l6 l7 : Option Value} {o : Option Value} {R : List (Option Value)} {x : Int32} (hd : pm_i E pc .istore_n .istore 8 q) (hi : 8 < pm_nL E) (hn : ∀ w, l7 = some w → w.category = 1) (k : pm_V E q (l0 :: l1 :: l2 :: l3 :: l4 :: l5 :: l6 :: l7 :: some (.int x) :: R) st h b F) : pm_V E pc (l0 :: l1 :: l2 :: l3 :: l4 :: l5 :: l6 :: l7 :: o :: R) (.int x :: st) h b F := r_istoreG hd hi (fun w hw => hn w (Option.some.inj hw)) k
theorem r_astore_8 {l0 l1 l2 l3 l4 l5 l6 l7 : Option Value} {o : Option Value} {R : List (Option Value)} {x : Nat} (hd : pm_i E pc .astore_n .astore 8 q) (hi : 8 < pm_nL E) (hn : ∀ w, l7 = some w → w.category = 1) (k : pm_V E q (l0 :: l1 :: l2 :: l3 :: l4 :: l5 :: l6 :: l7 :: some (.ref x) :: R) st h b F) : pm_V E pc (l0 :: l1 :: l2 :: l3 :: l4 :: l5 :: l6 :: l7 :: o :: R) (.ref x :: st) h b F := r_astoreG hd hi (fun w hw => hn w (Option.some.inj hw)) k
theorem r_astoreN_8 {l0 l1 l2 l3 l4 l5 l6 l7 : Option Value} {o : Option Value} {R : List (Option Value)} (hd : pm_i E pc .astore_n .astore 8 q) (hi : 8 < pm_nL E) (hn : ∀ w, l7 = some w → w.category = 1) (k : pm_V E q (l0 :: l1 :: l2 :: l3 :: l4 :: l5 :: l6 :: l7 :: some (.null) :: R) st h b F) : pm_V E pc (l0 :: l1 :: l2 :: l3 :: l4 :: l5 :: l6 :: l7 :: o :: R) (.null :: st) h b F := r_astoreNG hd hi (fun w hw => hn w (Option.some.inj hw)) k
theorem r_lstore_8 {l0 l1 l2 l3 l4 l5 l6 l7 : Option Value} {o o2 : Option Value} {R : List (Option Value)} {x : Int64} (hd : pm_i E pc .lstore_n .lstore 8 q) (hi : 9 < pm_nL E) (hn : ∀ w, l7 = some w → w.category = 1) (k : pm_V E q (l0 :: l1 :: l2 :: l3 :: l4 :: l5 :: l6 :: l7 :: some (.long x) :: none :: R) st h b F) : pm_V E pc (l0 :: l1 :: l2 :: l3 :: l4 :: l5 :: l6 :: l7 :: o :: o2 :: R) (.long x :: st) h b F := r_lstoreG hd hi (fun w hw => hn w (Option.some.inj hw)) k
theorem r_iinc_8 {l0 l1 l2 l3 l4 l5 l6 l7 : Option Value} {R : List (Option Value)} {x n : Int32} (hd : pm_I E pc 8 n q) (hi : 8 < pm_nL E) (hn : ∀ w, l7 = some w → w.category = 1) (k : pm_V E q (l0 :: l1 :: l2 :: l3 :: l4 :: l5 :: l6 :: l7 :: some (.int (x + n)) :: R) st h b F) : pm_V E pc (l0 :: l1 :: l2 :: l3 :: l4 :: l5 :: l6 :: l7 :: some (.int x) :: R) st h b F := r_iincG hd rfl hi (fun w hw => hn w (Option.some.inj hw)) k
theorem r_iload_9 {l0 l1 l2 l3 l4 l5 l6 l7 l8 : Option Value} {R : List (Option Value)} {x : Int32} (hd : pm_i E pc .iload_n .iload 9 q) (k : pm_V E q (l0 :: l1 :: l2 :: l3 :: l4 :: l5 :: l6 :: l7 :: l8 :: some (.int x) :: R) (.int x :: st) h b F) : pm_V E pc (l0 :: l1 :: l2 :: l3 :: l4 :: l5 :: l6 :: l7 :: l8 :: some (.int x) :: R) st h b F := r_iloadG hd rfl k
theorem r_lload_9 {l0 l1 l2 l3 l4 l5 l6 l7 l8 : Option Value} {R : List (Option Value)} {x : Int64} (hd : pm_i E pc .lload_n .lload 9 q) (k : pm_V E q (l0 :: l1 :: l2 :: l3 :: l4 :: l5 :: l6 :: l7 :: l8 :: some (.long x) :: R) (.long x :: st) h b F) : pm_V E pc (l0 :: l1 :: l2 :: l3 :: l4 :: l5 :: l6 :: l7 :: l8 :: some (.long x) :: R) st h b F := r_lloadG hd rfl k
theorem r_aload_9 {l0 l1 l2 l3 l4 l5 l6 l7 l8 : Option Value} {R : List (Option Value)} {x : Nat} (hd : pm_i E pc .aload_n .aload 9 q) (k : pm_V E q (l0 :: l1 :: l2 :: l3 :: l4 :: l5 :: l6 :: l7 :: l8 :: some (.ref x) :: R) (.ref x :: st) h b F) : pm_V E pc (l0 :: l1 :: l2 :: l3 :: l4 :: l5 :: l6 :: l7 :: l8 :: some (.ref x) :: R) st h b F := r_aloadG hd rfl k
theorem r_aloadN_9 {l0 l1 l2 l3 l4 l5 l6 l7 l8 : Option Value} {R : List (Option Value)} (hd : pm_i E pc .aload_n .aload 9 q) (k : pm_V E q (l0 :: l1 :: l2 :: l3 :: l4 :: l5 :: l6 :: l7 :: l8 :: some .null :: R) (.null :: st) h b F) : pm_V E pc (l0 :: l1 :: l2 :: l3 :: l4 :: l5 :: l6 :: l7 :: l8 :: some .null :: R) st h b F := r_aloadNG hd rfl k
theorem r_istore_9 {l0 l1 l2 l3 l4 l5 l6 l7 l8 : Option Value} {o : Option Value} {R : List (Option Value)} {x : Int32} (hd : pm_i E pc .istore_n .istore 9 q) (hi : 9 < pm_nL E) (hn : ∀ w, l8 = some w → w.category = 1) (k : pm_V E q (l0 :: l1 :: l2 :: l3 :: l4 :: l5 :: l6 :: l7 :: l8 :: some (.int x) :: R) st h b F) : pm_V E pc (l0 :: l1 :: l2 :: l3 :: l4 :: l5 :: l6 :: l7 :: l8 :: o :: R) (.int x :: st) h b F := r_istoreG hd hi (fun w hw => hn w (Option.some.inj hw)) k
theorem r_astore_9 {l0 l1 l2 l3 l4 l5 l6 l7 l8 : Option Value} {o : Option Value} {R : List (Option Value)} {x : Nat} (hd : pm_i E pc .astore_n .astore 9 q) (hi : 9 < pm_nL E) (hn : ∀ w, l8 = some w → w.category = 1) (k : pm_V E q (l0 :: l1 :: l2 :: l3 :: l4 :: l5 :: l6 :: l7 :: l8 :: some (.ref x) :: R) st h b F) : pm_V E pc (l0 :: l1 :: l2 :: l3 :: l4 :: l5 :: l6 :: l7 :: l8 :: o :: R) (.ref x :: st) h b F := r_astoreG hd hi (fun w hw => hn w (Option.some.inj hw)) k
theorem r_astoreN_9 {l0 l1 l2 l3 l4 l5 l6 l7 l8 : Option Value} {o : Option Value} {R : List (Option Value)} (hd : pm_i E pc .astore_n .astore 9 q) (hi : 9 < pm_nL E) (hn : ∀ w, l8 = some w → w.category = 1) (k : pm_V E q (l0 :: l1 :: l2 :: l3 :: l4 :: l5 :: l6 :: l7 :: l8 :: some (.null) :: R) st h b F) : pm_V E pc (l0 :: l1 :: l2 :: l3 :: l4 :: l5 :: l6 :: l7 :: l8 :: o :: R) (.null :: st) h b F := r_astoreNG hd hi (fun w hw => hn w (Option.some.inj hw)) k
theorem r_lstore_9 {l0 l1 l2 l3 l4 l5 l6 l7 l8 : Option Value} {o o2 : Option Value} {R : List (Option Value)} {x : Int64} (hd : pm_i E pc .lstore_n .lstore 9 q) (hi : 10 < pm_nL E) (hn : ∀ w, l8 = some w → w.category = 1) (k : pm_V E q (l0 :: l1 :: l2 :: l3 :: l4 :: l5 :: l6 :: l7 :: l8 :: some (.long x) :: none :: R) st h b F) : pm_V E pc (l0 :: l1 :: l2 :: l3 :: l4 :: l5 :: l6 :: l7 :: l8 :: o :: o2 :: R) (.long x :: st) h b F := r_lstoreG hd hi (fun w hw => hn w (Option.some.inj hw)) k
theorem r_iinc_9 {l0 l1 l2 l3 l4 l5 l6 l7 l8 : Option Value} {R : List (Option Value)} {x n : Int32} (hd : pm_I E pc 9 n q) (hi : 9 < pm_nL E) (hn : ∀ w, l8 = some w → w.category = 1) (k : pm_V E q (l0 :: l1 :: l2 :: l3 :: l4 :: l5 :: l6 :: l7 :: l8 :: some (.int (x + n)) :: R) st h b F) : pm_V E pc (l0 :: l1 :: l2 :: l3 :: l4 :: l5 :: l6 :: l7 :: l8 :: some (.int x) :: R) st h b F := r_iincG hd rfl hi (fun w hw => hn w (Option.some.inj hw)) k
theorem r_iload_10 {l0 l1 l2 l3 l4 l5 l6 l7 l8 l9 : Option Value} {R : List (Option Value)} {x : Int32} (hd : pm_i E pc .iload_n .iload 10 q) (k : pm_V E q (l0 :: l1 :: l2 :: l3 :: l4 :: l5 :: l6 :: l7 :: l8 :: l9 :: some (.int x) :: R) (.int x :: st) h b F) : pm_V E pc (l0 :: l1 :: l2 :: l3 :: l4 :: l5 :: l6 :: l7 :: l8 :: l9 :: some (.int x) :: R) st h b F := r_iloadG hd rfl k
theorem r_lload_10 {l0 l1 l2 l3 l4 l5 l6 l7 l8 l9 : Option Value} {R : List (Option Value)} {x : Int64} (hd : pm_i E pc .lload_n .lload 10 q) (k : pm_V E q (l0 :: l1 :: l2 :: l3 :: l4 :: l5 :: l6 :: l7 :: l8 :: l9 :: some (.long x) :: R) (.long x :: st) h b F) : pm_V E pc (l0 :: l1 :: l2 :: l3 :: l4 :: l5 :: l6 :: l7 :: l8 :: l9 :: some (.long x) :: R) st h b F := r_lloadG hd rfl k
theorem r_aload_10 {l0 l1 l2 l3 l4 l5 l6 l7 l8 l9 : Option Value} {R : List (Option Value)} {x : Nat} (hd : pm_i E pc .aload_n .aload 10 q) (k : pm_V E q (l0 :: l1 :: l2 :: l3 :: l4 :: l5 :: l6 :: l7 :: l8 :: l9 :: some (.ref x) :: R) (.ref x :: st) h b F) : pm_V E pc (l0 :: l1 :: l2 :: l3 :: l4 :: l5 :: l6 :: l7 :: l8 :: l9 :: some (.ref x) :: R) st h b F := r_aloadG hd rfl k
theorem r_aloadN_10 {l0 l1 l2 l3 l4 l5 l6 l7 l8 l9 : Option Value} {R : List (Option Value)} (hd : pm_i E pc .aload_n .aload 10 q) (k : pm_V E q (l0 :: l1 :: l2 :: l3 :: l4 :: l5 :: l6 :: l7 :: l8 :: l9 :: some .null :: R) (.null :: st) h b F) : pm_V E pc (l0 :: l1 :: l2 :: l3 :: l4 :: l5 :: l6 :: l7 :: l8 :: l9 :: some .null :: R) st h b F := r_aloadNG hd rfl k
theorem r_istore_10 {l0 l1 l2 l3 l4 l5 l6 l7 l8 l9 : Option Value} {o : Option Value} {R : List (Option Value)} {x : Int32} (hd : pm_i E pc .istore_n .istore 10 q) (hi : 10 < pm_nL E) (hn : ∀ w, l9 = some w → w.category = 1) (k : pm_V E q (l0 :: l1 :: l2 :: l3 :: l4 :: l5 :: l6 :: l7 :: l8 :: l9 :: some (.int x) :: R) st h b F) : pm_V E pc (l0 :: l1 :: l2 :: l3 :: l4 :: l5 :: l6 :: l7 :: l8 :: l9 :: o :: R) (.int x :: st) h b F := r_istoreG hd hi (fun w hw => hn w (Option.some.inj hw)) k
theorem r_astore_10 {l0 l1 l2 l3 l4 l5 l6 l7 l8 l9 : Option Value} {o : Option Value} {R : List (Option Value)} {x : Nat} (hd : pm_i E pc .astore_n .astore 10 q) (hi : 10 < pm_nL E) (hn : ∀ w, l9 = some w → w.category = 1) (k : pm_V E q (l0 :: l1 :: l2 :: l3 :: l4 :: l5 :: l6 :: l7 :: l8 :: l9 :: some (.ref x) :: R) st h b F) : pm_V E pc (l0 :: l1 :: l2 :: l3 :: l4 :: l5 :: l6 :: l7 :: l8 :: l9 :: o :: R) (.ref x :: st) h b F := r_astoreG hd hi (fun w hw => hn w (Option.some.inj hw)) k
theorem r_astoreN_10 {l0 l1 l2 l3 l4 l5 l6 l7 l8 l9 : Option Value} {o : Option Value} {R : List (Option Value)} (hd : pm_i E pc .astore_n .astore 10 q) (hi : 10 < pm_nL E) (hn : ∀ w, l9 = some w → w.category = 1) (k : pm_V E q (l0 :: l1 :: l2 :: l3 :: l4 :: l5 :: l6 :: l7 :: l8 :: l9 :: some (.null) :: R) st h b F) : pm_V E pc (l0 :: l1 :: l2 :: l3 :: l4 :: l5 :: l6 :: l7 :: l8 :: l9 :: o :: R) (.null :: st) h b F := r_astoreNG hd hi (fun w hw => hn w (Option.some.inj hw)) k
theorem r_lstore_10 {l0 l1 l2 l3 l4 l5 l6 l7 l8 l9 : Option Value} {o o2 : Option Value} {R : List (Option Value)} {x : Int64} (hd : pm_i E pc .lstore_n .lstore 10 q) (hi : 11 < pm_nL E) (hn : ∀ w, l9 = some w → w.category = 1) (k : pm_V E q (l0 :: l1 :: l2 :: l3 :: l4 :: l5 :: l6 :: l7 :: l8 :: l9 :: some (.long x) :: none :: R) st h b F) : pm_V E pc (l0 :: l1 :: l2 :: l3 :: l4 :: l5 :: l6 :: l7 :: l8 :: l9 :: o :: o2 :: R) (.long x :: st) h b F := r_lstoreG hd hi (fun w hw => hn w (Option.some.inj hw)) k
theorem r_iinc_10 {l0 l1 l2 l3 l4 l5 l6 l7 l8 l9 : Option Value} {R : List (Option Value)} {x n : Int32} (hd : pm_I E pc 10 n q) (hi : 10 < pm_nL E) (hn : ∀ w, l9 = some w → w.category = 1) (k : pm_V E q (l0 :: l1 :: l2 :: l3 :: l4 :: l5 :: l6 :: l7 :: l8 :: l9 :: some (.int (x + n)) :: R) st h b F) : pm_V E pc (l0 :: l1 :: l2 :: l3 :: l4 :: l5 :: l6 :: l7 :: l8 :: l9 :: some (.int x) :: R) st h b F := r_iincG hd rfl hi (fun w hw => hn w (Option.some.inj hw)) k
theorem r_iload_11 {l0 l1 l2 l3 l4 l5 l6 l7 l8 l9 l10 : Option Value} {R : List (Option Value)} {x : Int32} (hd : pm_i E pc .iload_n .iload 11 q) (k : pm_V E q (l0 :: l1 :: l2 :: l3 :: l4 :: l5 :: l6 :: l7 :: l8 :: l9 :: l10 :: some (.int x) :: R) (.int x :: st) h b F) : pm_V E pc (l0 :: l1 :: l2 :: l3 :: l4 :: l5 :: l6 :: l7 :: l8 :: l9 :: l10 :: some (.int x) :: R) st h b F := r_iloadG hd rfl k
theorem r_lload_11 {l0 l1 l2 l3 l4 l5 l6 l7 l8 l9 l10 : Option Value} {R : List (Option Value)} {x : Int64} (hd : pm_i E pc .lload_n .lload 11 q) (k : pm_V E q (l0 :: l1 :: l2 :: l3 :: l4 :: l5 :: l6 :: l7 :: l8 :: l9 :: l10 :: some (.long x) :: R) (.long x :: st) h b F) : pm_V E pc (l0 :: l1 :: l2 :: l3 :: l4 :: l5 :: l6 :: l7 :: l8 :: l9 :: l10 :: some (.long x) :: R) st h b F := r_lloadG hd rfl k
theorem r_aload_11 {l0 l1 l2 l3 l4 l5 l6 l7 l8 l9 l10 : Option Value} {R : List (Option Value)} {x : Nat} (hd : pm_i E pc .aload_n .aload 11 q) (k : pm_V E q (l0 :: l1 :: l2 :: l3 :: l4 :: l5 :: l6 :: l7 :: l8 :: l9 :: l10 :: some (.ref x) :: R) (.ref x :: st) h b F) : pm_V E pc (l0 :: l1 :: l2 :: l3 :: l4 :: l5 :: l6 :: l7 :: l8 :: l9 :: l10 :: some (.ref x) :: R) st h b F := r_aloadG hd rfl k
theorem r_aloadN_11 {l0 l1 l2 l3 l4 l5 l6 l7 l8 l9 l10 : Option Value} {R : List (Option Value)} (hd : pm_i E pc .aload_n .aload 11 q) (k : pm_V E q (l0 :: l1 :: l2 :: l3 :: l4 :: l5 :: l6 :: l7 :: l8 :: l9 :: l10 :: some .null :: R) (.null :: st) h b F) : pm_V E pc (l0 :: l1 :: l2 :: l3 :: l4 :: l5 :: l6 :: l7 :: l8 :: l9 :: l10 :: some .null :: R) st h b F := r_aloadNG hd rfl k
theorem r_istore_11 {l0 l1 l2 l3 l4 l5 l6 l7 l8 l9 l10 : Option Value} {o : Option Value} {R : List (Option Value)} {x : Int32} (hd : pm_i E pc .istore_n .istore 11 q) (hi : 11 < pm_nL E) (hn : ∀ w, l10 = some w → w.category = 1) (k : pm_V E q (l0 :: l1 :: l2 :: l3 :: l4 :: l5 :: l6 :: l7 :: l8 :: l9 :: l10 :: some (.int x) :: R) st h b F) : pm_V E pc (l0 :: l1 :: l2 :: l3 :: l4 :: l5 :: l6 :: l7 :: l8 :: l9 :: l10 :: o :: R) (.int x :: st) h b F := r_istoreG hd hi (fun w hw => hn w (Option.some.inj hw)) k
theorem r_astore_11 {l0 l1 l2 l3 l4 l5 l6 l7 l8 l9 l10 : Option Value} {o : Option Value} {R : List (Option Value)} {x : Nat} (hd : pm_i E pc .astore_n .astore 11 q) (hi : 11 < pm_nL E) (hn : ∀ w, l10 = some w → w.category = 1) (k : pm_V E q (l0 :: l1 :: l2 :: l3 :: l4 :: l5 :: l6 :: l7 :: l8 :: l9 :: l10 :: some (.ref x) :: R) st h b F) : pm_V E pc (l0 :: l1 :: l2 :: l3 :: l4 :: l5 :: l6 :: l7 :: l8 :: l9 :: l10 :: o :: R) (.ref x :: st) h b F := r_astoreG hd hi (fun w hw => hn w (Option.some.inj hw)) k
theorem r_astoreN_11 {l0 l1 l2 l3 l4 l5 l6 l7 l8 l9 l10 : Option Value} {o : Option Value} {R : List (Option Value)} (hd : pm_i E pc .astore_n .astore 11 q) (hi : 11 < pm_nL E) (hn : ∀ w, l10 = some w → w.category = 1) (k : pm_V E q (l0 :: l1 :: l2 :: l3 :: l4 :: l5 :: l6 :: l7 :: l8 :: l9 :: l10 :: some (.null) :: R) st h b F) : pm_V E pc (l0 :: l1 :: l2 :: l3 :: l4 :: l5 :: l6 :: l7 :: l8 :: l9 :: l10 :: o :: R) (.null :: st) h b F := r_astoreNG hd hi (fun w hw => hn w (Option.some.inj hw)) k
theorem r_lstore_11 {l0 l1 l2 l3 l4 l5 l6 l7 l8 l9 l10 : Option Value} {o o2 : Option Value} {R : List (Option Value)} {x : Int64} (hd : pm_i E pc .lstore_n .lstore 11 q) (hi : 12 < pm_nL E) (hn : ∀ w, l10 = some w → w.category = 1) (k : pm_V E q (l0 :: l1 :: l2 :: l3 :: l4 :: l5 :: l6 :: l7 :: l8 :: l9 :: l10 :: some (.long x) :: none :: R) st h b F) : pm_V E pc (l0 :: l1 :: l2 :: l3 :: l4 :: l5 :: l6 :: l7 :: l8 :: l9 :: l10 :: o :: o2 :: R) (.long x :: st) h b F := r_lstoreG hd hi (fun w hw => hn w (Option.some.inj hw)) k
theorem r_iinc_11 {l0 l1 l2 l3 l4 l5 l6 l7 l8 l9 l10 : Option Value} {R : List (Option Value)} {x n : Int32} (hd : pm_I E pc 11 n q) (hi : 11 < pm_nL E) (hn : ∀ w, l10 = some w → w.category = 1) (k : pm_V E q (l0 :: l1 :: l2 :: l3 :: l4 :: l5 :: l6 :: l7 :: l8 :: l9 :: l10 :: some (.int (x + n)) :: R) st h b F) : pm_V E pc (l0 :: l1 :: l2 :: l3 :: l4 :: l5 :: l6 :: l7 :: l8 :: l9 :: l10 :: some (.int x) :: R) st h b F := r_iincG hd rfl hi (fun w hw => hn w (Option.some.inj hw)) k
theorem r_iload_12 {l0 l1 l2 l3 l4 l5 l6 l7 l8 l9 l10 l11 : Option Value} {R : List (Option Value)} {x : Int32} (hd : pm_i E pc .iload_n .iload 12 q) (k : pm_V E q (l0 :: l1 :: l2 :: l3 :: l4 :: l5 :: l6 :: l7 :: l8 :: l9 :: l10 :: l11 :: some (.int x) :: R) (.int x :: st) h b F) : pm_V E pc (l0 :: l1 :: l2 :: l3 :: l4 :: l5 :: l6 :: l7 :: l8 :: l9 :: l10 :: l11 :: some (.int x) :: R) st h b F := r_iloadG hd rfl k
theorem r_lload_12 {l0 l1 l2 l3 l4 l5 l6 l7 l8 l9 l10 l11 : Option Value} {R : List (Option Value)} {x : Int64} (hd : pm_i E pc .lload_n .lload 12 q) (k : pm_V E q (l0 :: l1 :: l2 :: l3 :: l4 :: l5 :: l6 :: l7 :: l8 :: l9 :: l10 :: l11 :: some (.long x) :: R) (.long x :: st) h b F) : pm_V E pc (l0 :: l1 :: l2 :: l3 :: l4 :: l5 :: l6 :: l7 :: l8 :: l9 :: l10 :: l11 :: some (.long x) :: R) st h b F := r_lloadG hd rfl k
theorem r_aload_12 {l0 l1 l2 l3 l4 l5 l6 l7 l8 l9 l10 l11 : Option Value} {R : List (Option Value)} {x : Nat} (hd : pm_i E pc .aload_n .aload 12 q) (k : pm_V E q (l0 :: l1 :: l2 :: l3 :: l4 :: l5 :: l6 :: l7 :: l8 :: l9 :: l10 :: l11 :: some (.ref x) :: R) (.ref x :: st) h b F) : pm_V E pc (l0 :: l1 :: l2 :: l3 :: l4 :: l5 :: l6 :: l7 :: l8 :: l9 :: l10 :: l11 :: some (.ref x) :: R) st h b F := r_aloadG hd rfl k
theorem r_aloadN_12 {l0 l1 l2 l3 l4 l5 l6 l7 l8 l9 l10 l11 : Option Value} {R : List (Option Value)} (hd : pm_i E pc .aload_n .aload 12 q) (k : pm_V E q (l0 :: l1 :: l2 :: l3 :: l4 :: l5 :: l6 :: l7 :: l8 :: l9 :: l10 :: l11 :: some .null :: R) (.null :: st) h b F) : pm_V E pc (l0 :: l1 :: l2 :: l3 :: l4 :: l5 :: l6 :: l7 :: l8 :: l9 :: l10 :: l11 :: some .null :: R) st h b F := r_aloadNG hd rfl k
theorem r_istore_12 {l0 l1 l2 l3 l4 l5 l6 l7 l8 l9 l10 l11 : Option Value} {o : Option Value} {R : List (Option Value)} {x : Int32} (hd : pm_i E pc .istore_n .istore 12 q) (hi : 12 < pm_nL E) (hn : ∀ w, l11 = some w → w.category = 1) (k : pm_V E q (l0 :: l1 :: l2 :: l3 :: l4 :: l5 :: l6 :: l7 :: l8 :: l9 :: l10 :: l11 :: some (.int x) :: R) st h b F) : pm_V E pc (l0 :: l1 :: l2 :: l3 :: l4 :: l5 :: l6 :: l7 :: l8 :: l9 :: l10 :: l11 :: o :: R) (.int x :: st) h b F := r_istoreG hd hi (fun w hw => hn w (Option.some.inj hw)) k
theorem r_astore_12 {l0 l1 l2 l3 l4 l5 l6 l7 l8 l9 l10 l11 : Option Value} {o : Option Value} {R : List (Option Value)} {x : Nat} (hd : pm_i E pc .astore_n .astore 12 q) (hi : 12 < pm_nL E) (hn : ∀ w, l11 = some w → w.category = 1) (k : pm_V E q (l0 :: l1 :: l2 :: l3 :: l4 :: l5 :: l6 :: l7 :: l8 :: l9 :: l10 :: l11 :: some (.ref x) :: R) st h b F) : pm_V E pc (l0 :: l1 :: l2 :: l3 :: l4 :: l5 :: l6 :: l7 :: l8 :: l9 :: l10 :: l11 :: o :: R) (.ref x :: st) h b F := r_astoreG hd hi (fun w hw => hn w (Option.some.inj hw)) k
theorem r_astoreN_12 {l0 l1 l2 l3 l4 l5 l6 l7 l8 l9 l10 l11 : Option Value} {o : Option Value} {R : List (Option Value)} (hd : pm_i E pc .astore_n .astore 12 q) (hi : 12 < pm_nL E) (hn : ∀ w, l11 = some w → w.category = 1) (k : pm_V E q (l0 :: l1 :: l2 :: l3 :: l4 :: l5 :: l6 :: l7 :: l8 :: l9 :: l10 :: l11 :: some (.null) :: R) st h b F) : pm_V E pc (l0 :: l1 :: l2 :: l3 :: l4 :: l5 :: l6 :: l7 :: l8 :: l9 :: l10 :: l11 :: o :: R) (.null :: st) h b F := r_astoreNG hd hi (fun w hw => hn w (Option.some.inj hw)) k
theorem r_lstore_12 {l0 l1 l2 l3 l4 l5 l6 l7 l8 l9 l10 l11 : Option Value} {o o2 : Option Value} {R : List (Option Value)} {x : Int64} (hd : pm_i E pc .lstore_n .lstore 12 q) (hi : 13 < pm_nL E) (hn : ∀ w, l11 = some w → w.category = 1) (k : pm_V E q (l0 :: l1 :: l2 :: l3 :: l4 :: l5 :: l6 :: l7 :: l8 :: l9 :: l10 :: l11 :: some (.long x) :: none :: R) st h b F) : pm_V E pc (l0 :: l1 :: l2 :: l3 :: l4 :: l5 :: l6 :: l7 :: l8 :: l9 :: l10 :: l11 :: o :: o2 :: R) (.long x :: st) h b F := r_lstoreG hd hi (fun w hw => hn w (Option.some.inj hw)) k
theorem r_iinc_12 {l0 l1 l2 l3 l4 l5 l6 l7 l8 l9 l10 l11 : Option Value} {R : List (Option Value)} {x n : Int32} (hd : pm_I E pc 12 n q) (hi : 12 < pm_nL E) (hn : ∀ w, l11 = some w → w.category = 1) (k : pm_V E q (l0 :: l1 :: l2 :: l3 :: l4 :: l5 :: l6 :: l7 :: l8 :: l9 :: l10 :: l11 :: some (.int (x + n)) :: R) st h b F) : pm_V E pc (l0 :: l1 :: l2 :: l3 :: l4 :: l5 :: l6 :: l7 :: l8 :: l9 :: l10 :: l11 :: some (.int x) :: R) st h b F := r_iincG hd rfl hi (fun w hw => hn w (Option.some.inj hw)) k
theorem r_iload_13 {l0 l1 l2 l3 l4 l5 l6 l7 l8 l9 l10 l11 l12 : Option Value} {R : List (Option Value)} {x : Int32} (hd : pm_i E pc .iload_n .iload 13 q) (k : pm_V E q (l0 :: l1 :: l2 :: l3 :: l4 :: l5 :: l6 :: l7 :: l8 :: l9 :: l10 :: l11 :: l12 :: some (.int x) :: R) (.int x :: st) h b F) : pm_V E pc (l0 :: l1 :: l2 :: l3 :: l4 :: l5 :: l6 :: l7 :: l8 :: l9 :: l10 :: l11 :: l12 :: some (.int x) :: R) st h b F := r_iloadG hd rfl k
theorem r_lload_13 {l0 l1 l2 l3 l4 l5 l6 l7 l8 l9 l10 l11 l12 : Option Value} {R : List (Option Value)} {x : Int64} (hd : pm_i E pc .lload_n .lload 13 q) (k : pm_V E q (l0 :: l1 :: l2 :: l3 :: l4 :: l5 :: l6 :: l7 :: l8 :: l9 :: l10 :: l11 :: l12 :: some (.long x) :: R) (.long x :: st) h b F) : pm_V E pc (l0 :: l1 :: l2 :: l3 :: l4 :: l5 :: l6 :: l7 :: l8 :: l9 :: l10 :: l11 :: l12 :: some (.long x) :: R) st h b F := r_lloadG hd rfl k
theorem r_aload_13 {l0 l1 l2 l3 l4 l5 l6 l7 l8 l9 l10 l11 l12 : Option Value} {R : List (Option Value)} {x : Nat} (hd : pm_i E pc .aload_n .aload 13 q) (k : pm_V E q (l0 :: l1 :: l2 :: l3 :: l4 :: l5 :: l6 :: l7 :: l8 :: l9 :: l10 :: l11 :: l12 :: some (.ref x) :: R) (.ref x :: st) h b F) : pm_V E pc (l0 :: l1 :: l2 :: l3 :: l4 :: l5 :: l6 :: l7 :: l8 :: l9 :: l10 :: l11 :: l12 :: some (.ref x) :: R) st h b F := r_aloadG hd rfl k
theorem r_aloadN_13 {l0 l1 l2 l3 l4 l5 l6 l7 l8 l9 l10 l11 l12 : Option Value} {R : List (Option Value)} (hd : pm_i E pc .aload_n .aload 13 q) (k : pm_V E q (l0 :: l1 :: l2 :: l3 :: l4 :: l5 :: l6 :: l7 :: l8 :: l9 :: l10 :: l11 :: l12 :: some .null :: R) (.null :: st) h b F) : pm_V E pc (l0 :: l1 :: l2 :: l3 :: l4 :: l5 :: l6 :: l7 :: l8 :: l9 :: l10 :: l11 :: l12 :: some .null :: R) st h b F := r_aloadNG hd rfl k
theorem r_istore_13 {l0 l1 l2 l3 l4 l5 l6 l7 l8 l9 l10 l11 l12 : Option Value} {o : Option Value} {R : List (Option Value)} {x : Int32} (hd : pm_i E pc .istore_n .istore 13 q) (hi : 13 < pm_nL E) (hn : ∀ w, l12 = some w → w.category = 1) (k : pm_V E q (l0 :: l1 :: l2 :: l3 :: l4 :: l5 :: l6 :: l7 :: l8 :: l9 :: l10 :: l11 :: l12 :: some (.int x) :: R) st h b F) : pm_V E pc (l0 :: l1 :: l2 :: l3 :: l4 :: l5 :: l6 :: l7 :: l8 :: l9 :: l10 :: l11 :: l12 :: o :: R) (.int x :: st) h b F := r_istoreG hd hi (fun w hw => hn w (Option.some.inj hw)) k
theorem r_astore_13 {l0 l1 l2 l3 l4 l5 l6 l7 l8 l9 l10 l11 l12 : Option Value} {o : Option Value} {R : List (Option Value)} {x : Nat} (hd : pm_i E pc .astore_n .astore 13 q) (hi : 13 < pm_nL E) (hn : ∀ w, l12 = some w → w.category = 1) (k : pm_V E q (l0 :: l1 :: l2 :: l3 :: l4 :: l5 :: l6 :: l7 :: l8 :: l9 :: l10 :: l11 :: l12 :: some (.ref x) :: R) st h b F) : pm_V E pc (l0 :: l1 :: l2 :: l3 :: l4 :: l5 :: l6 :: l7 :: l8 :: l9 :: l10 :: l11 :: l12 :: o :: R) (.ref x :: st) h b F := r_astoreG hd hi (fun w hw => hn w (Option.some.inj hw)) k
theorem r_astoreN_13 {l0 l1 l2 l3 l4 l5 l6 l7 l8 l9 l10 l11 l12 : Option Value} {o : Option Value} {R : List (Option Value)} (hd : pm_i E pc .astore_n .astore 13 q) (hi : 13 < pm_nL E) (hn : ∀ w, l12 = some w → w.category = 1) (k : pm_V E q (l0 :: l1 :: l2 :: l3 :: l4 :: l5 :: l6 :: l7 :: l8 :: l9 :: l10 :: l11 :: l12 :: some (.null) :: R) st h b F) : pm_V E pc (l0 :: l1 :: l2 :: l3 :: l4 :: l5 :: l6 :: l7 :: l8 :: l9 :: l10 :: l11 :: l12 :: o :: R) (.null :: st) h b F := r_astoreNG hd hi (fun w hw => hn w (Option.some.inj hw)) k
theorem r_lstore_13 {l0 l1 l2 l3 l4 l5 l6 l7 l8 l9 l10 l11 l12 : Option Value} {o o2 : Option Value} {R : List (Option Value)} {x : Int64} (hd : pm_i E pc .lstore_n .lstore 13 q) (hi : 14 < pm_nL E) (hn : ∀ w, l12 = some w → w.category = 1) (k : pm_V E q (l0 :: l1 :: l2 :: l3 :: l4 :: l5 :: l6 :: l7 :: l8 :: l9 :: l10 :: l11 :: l12 :: some (.long x) :: none :: R) st h b F) : pm_V E pc (l0 :: l1 :: l2 :: l3 :: l4 :: l5 :: l6 :: l7 :: l8 :: l9 :: l10 :: l11 :: l12 :: o :: o2 :: R) (.long x :: st) h b F := r_lstoreG hd hi (fun w hw => hn w (Option.some.inj hw)) k
theorem r_iinc_13 {l0 l1 l2 l3 l4 l5 l6 l7 l8 l9 l10 l11 l12 : Option Value} {R : List (Option Value)} {x n : Int32} (hd : pm_I E pc 13 n q) (hi : 13 < pm_nL E) (hn : ∀ w, l12 = some w → w.category = 1) (k : pm_V E q (l0 :: l1 :: l2 :: l3 :: l4 :: l5 :: l6 :: l7 :: l8 :: l9 :: l10 :: l11 :: l12 :: some (.int (x + n)) :: R) st h b F) : pm_V E pc (l0 :: l1 :: l2 :: l3 :: l4 :: l5 :: l6 :: l7 :: l8 :: l9 :: l10 :: l11 :: l12 :: some (.int x) :: R) st h b F := r_iincG hd rfl hi (fun w hw => hn w (Option.some.inj hw)) k
theorem r_iload_14 {l0 l1 l2 l3 l4 l5 l6 l7 l8 l9 l10 l11 l12 l13 : Option Value} {R : List (Option Value)} {x : Int32} (hd : pm_i E pc .iload_n .iload 14 q) (k : pm_V E q (l0 :: l1 :: l2 :: l3 :: l4 :: l5 :: l6 :: l7 :: l8 :: l9 :: l10 :: l11 :: l12 :: l13 :: some (.int x) :: R) (.int x :: st) h b F) : pm_V E pc (l0 :: l1 :: l2 :: l3 :: l4 :: l5 :: l6 :: l7 :: l8 :: l9 :: l10 :: l11 :: l12 :: l13 :: some (.int x) :: R) st h b F := r_iloadG hd rfl k
theorem r_lload_14 {l0 l1 l2 l3 l4 l5 l6 l7 l8 l9 l10 l11 l12 l13 : Option Value} {R : List (Option Value)} {x : Int64} (hd : pm_i E pc .lload_n .lload 14 q) (k : pm_V E q (l0 :: l1 :: l2 :: l3 :: l4 :: l5 :: l6 :: l7 :: l8 :: l9 :: l10 :: l11 :: l12 :: l13 :: some (.long x) :: R) (.long x :: st) h b F) : pm_V E pc (l0 :: l1 :: l2 :: l3 :: l4 :: l5 :: l6 :: l7 :: l8 :: l9 :: l10 :: l11 :: l12 :: l13 :: some (.long x) :: R) st h b F := r_lloadG hd rfl k
theorem r_aload_14 {l0 l1 l2 l3 l4 l5 l6 l7 l8 l9 l10 l11 l12 l13 : Option Value} {R : List (Option Value)} {x : Nat} (hd : pm_i E pc .aload_n .aload 14 q) (k : pm_V E q (l0 :: l1 :: l2 :: l3 :: l4 :: l5 :: l6 :: l7 :: l8 :: l9 :: l10 :: l11 :: l12 :: l13 :: some (.ref x) :: R) (.ref x :: st) h b F) : pm_V E pc (l0 :: l1 :: l2 :: l3 :: l4 :: l5 :: l6 :: l7 :: l8 :: l9 :: l10 :: l11 :: l12 :: l13 :: some (.ref x) :: R) st h b F := r_aloadG hd rfl k
theorem r_aloadN_14 {l0 l1 l2 l3 l4 l5 l6 l7 l8 l9 l10 l11 l12 l13 : Option Value} {R : List (Option Value)} (hd : pm_i E pc .aload_n .aload 14 q) (k : pm_V E q (l0 :: l1 :: l2 :: l3 :: l4 :: l5 :: l6 :: l7 :: l8 :: l9 :: l10 :: l11 :: l12 :: l13 :: some .null :: R) (.null :: st) h b F) : pm_V E pc (l0 :: l1 :: l2 :: l3 :: l4 :: l5 :: l6 :: l7 :: l8 :: l9 :: l10 :: l11 :: l12 :: l13 :: some .null :: R) st h b F := r_aloadNG hd rfl k
theorem r_istore_14 {l0 l1 l2 l3 l4 l5 l6 l7 l8 l9 l10 l11 l12 l13 : Option Value} {o : Option Value} {R : List (Option Value)} {x : Int32} (hd : pm_i E pc .istore_n .istore 14 q) (hi : 14 < pm_nL E) (hn : ∀ w, l13 = some w → w.category = 1) (k : pm_V E q (l0 :: l1 :: l2 :: l3 :: l4 :: l5 :: l6 :: l7 :: l8 :: l9 :: l10 :: l11 :: l12 :: l13 :: some (.int x) :: R) st h b F) : pm_V E pc (l0 :: l1 :: l2 :: l3 :: l4 :: l5 :: l6 :: l7 :: l8 :: l9 :: l10 :: l11 :: l12 :: l13 :: o :: R) (.int x :: st) h b F := r_istoreG hd hi (fun w hw => hn w (Option.some.inj hw)) k
theorem r_astore_14 {l0 l1 l2 l3 l4 l5 l6 l7 l8 l9 l10 l11 l12 l13 : Option Value} {o : Option Value} {R : List (Option Value)} {x : Nat} (hd : pm_i E pc .astore_n .astore 14 q) (hi : 14 < pm_nL E) (hn : ∀ w, l13 = some w → w.category = 1) (k : pm_V E q (l0 :: l1 :: l2 :: l3 :: l4 :: l5 :: l6 :: l7 :: l8 :: l9 :: l10 :: l11 :: l12 :: l13 :: some (.ref x) :: R) st h b F) : pm_V E pc (l0 :: l1 :: l2 :: l3 :: l4 :: l5 :: l6 :: l7 :: l8 :: l9 :: l10 :: l11 :: l12 :: l13 :: o :: R) (.ref x :: st) h b F := r_astoreG hd hi (fun w hw => hn w (Option.some.inj hw)) k
theorem r_astoreN_14 {l0 l1 l2 l3 l4 l5 l6 l7 l8 l9 l10 l11 l12 l13 : Option Value} {o : Option Value} {R : List (Option Value)} (hd : pm_i E pc .astore_n .astore 14 q) (hi : 14 < pm_nL E) (hn : ∀ w, l13 = some w → w.category = 1) (k : pm_V E q (l0 :: l1 :: l2 :: l3 :: l4 :: l5 :: l6 :: l7 :: l8 :: l9 :: l10 :: l11 :: l12 :: l13 :: some (.null) :: R) st h b F) : pm_V E pc (l0 :: l1 :: l2 :: l3 :: l4 :: l5 :: l6 :: l7 :: l8 :: l9 :: l10 :: l11 :: l12 :: l13 :: o :: R) (.null :: st) h b F := r_astoreNG hd hi (fun w hw => hn w (Option.some.inj hw)) k
theorem r_lstore_14 {l0 l1 l2 l3 l4 l5 l6 l7 l8 l9 l10 l11 l12 l13 : Option Value} {o o2 : Option Value} {R : List (Option Value)} {x : Int64} (hd : pm_i E pc .lstore_n .lstore 14 q) (hi : 15 < pm_nL E) (hn : ∀ w, l13 = some w → w.category = 1) (k : pm_V E q (l0 :: l1 :: l2 :: l3 :: l4 :: l5 :: l6 :: l7 :: l8 :: l9 :: l10 :: l11 :: l12 :: l13 :: some (.long x) :: none :: R) st h b F) : pm_V E pc (l0 :: l1 :: l2 :: l3 :: l4 :: l5 :: l6 :: l7 :: l8 :: l9 :: l10 :: l11 :: l12 :: l13 :: o :: o2 :: R) (.long x :: st) h b F := r_lstoreG hd hi (fun w hw => hn w (Option.some.inj hw)) k
theorem r_iinc_14 {l0 l1 l2 l3 l4 l5 l6 l7 l8 l9 l10 l11 l12 l13 : Option Value} {R : List (Option Value)} {x n : Int32} (hd : pm_I E pc 14 n q) (hi : 14 < pm_nL E) (hn : ∀ w, l13 = some w → w.category = 1) (k : pm_V E q (l0 :: l1 :: l2 :: l3 :: l4 :: l5 :: l6 :: l7 :: l8 :: l9 :: l10 :: l11 :: l12 :: l13 :: some (.int (x + n)) :: R) st h b F) : pm_V E pc (l0 :: l1 :: l2 :: l3 :: l4 :: l5 :: l6 :: l7 :: l8 :: l9 :: l10 :: l11 :: l12 :: l13 :: some (.int x) :: R) st h b F := r_iincG hd rfl hi (fun w hw => hn w (Option.some.inj hw)) k
theorem r_iload_15 {l0 l1 l2 l3 l4 l5 l6 l7 l8 l9 l10 l11 l12 l13 l14 : Option Value} {R : List (Option Value)} {x : Int32} (hd : pm_i E pc .iload_n .iload 15 q) (k : pm_V E q (l0 :: l1 :: l2 :: l3 :: l4 :: l5 :: l6 :: l7 :: l8 :: l9 :: l10 :: l11 :: l12 :: l13 :: l14 :: some (.int x) :: R) (.int x :: st) h b F) : pm_V E pc (l0 :: l1 :: l2 :: l3 :: l4 :: l5 :: l6 :: l7 :: l8 :: l9 :: l10 :: l11 :: l12 :: l13 :: l14 :: some (.int x) :: R) st h b F := r_iloadG hd rfl k
theorem r_lload_15 {l0 l1 l2 l3 l4 l5 l6 l7 l8 l9 l10 l11 l12 l13 l14 : Option Value} {R : List (Option Value)} {x : Int64} (hd : pm_i E pc .lload_n .lload 15 q) (k : pm_V E q (l0 :: l1 :: l2 :: l3 :: l4 :: l5 :: l6 :: l7 :: l8 :: l9 :: l10 :: l11 :: l12 :: l13 :: l14 :: some (.long x) :: R) (.long x :: st) h b F) : pm_V E pc (l0 :: l1 :: l2 :: l3 :: l4 :: l5 :: l6 :: l7 :: l8 :: l9 :: l10 :: l11 :: l12 :: l13 :: l14 :: some (.long x) :: R) st h b F := r_lloadG hd rfl k
theorem r_aload_15 {l0 l1 l2 l3 l4 l5 l6 l7 l8 l9 l10 l11 l12 l13 l14 : Option Value} {R : List (Option Value)} {x : Nat} (hd : pm_i E pc .aload_n .aload 15 q) (k : pm_V E q (l0 :: l1 :: l2 :: l3 :: l4 :: l5 :: l6 :: l7 :: l8 :: l9 :: l10 :: l11 :: l12 :: l13 :: l14 :: some (.ref x) :: R) (.ref x :: st) h b F) : pm_V E pc (l0 :: l1 :: l2 :: l3 :: l4 :: l5 :: l6 :: l7 :: l8 :: l9 :: l10 :: l11 :: l12 :: l13 :: l14 :: some (.ref x) :: R) st h b F := r_aloadG hd rfl k
theorem r_aloadN_15 {l0 l1 l2 l3 l4 l5 l6 l7 l8 l9 l10 l11 l12 l13 l14 : Option Value} {R : List (Option Value)} (hd : pm_i E pc .aload_n .aload 15 q) (k : pm_V E q (l0 :: l1 :: l2 :: l3 :: l4 :: l5 :: l6 :: l7 :: l8 :: l9 :: l10 :: l11 :: l12 :: l13 :: l14 :: some .null :: R) (.null :: st) h b F) : pm_V E pc (l0 :: l1 :: l2 :: l3 :: l4 :: l5 :: l6 :: l7 :: l8 :: l9 :: l10 :: l11 :: l12 :: l13 :: l14 :: some .null :: R) st h b F := r_aloadNG hd rfl k
theorem r_istore_15 {l0 l1 l2 l3 l4 l5 l6 l7 l8 l9 l10 l11 l12 l13 l14 : Option Value} {o : Option Value} {R : List (Option Value)} {x : Int32} (hd : pm_i E pc .istore_n .istore 15 q) (hi : 15 < pm_nL E) (hn : ∀ w, l14 = some w → w.category = 1) (k : pm_V E q (l0 :: l1 :: l2 :: l3 :: l4 :: l5 :: l6 :: l7 :: l8 :: l9 :: l10 :: l11 :: l12 :: l13 :: l14 :: some (.int x) :: R) st h b F) : pm_V E pc (l0 :: l1 :: l2 :: l3 :: l4 :: l5 :: l6 :: l7 :: l8 :: l9 :: l10 :: l11 :: l12 :: l13 :: l14 :: o :: R) (.int x :: st) h b F := r_istoreG hd hi (fun w hw => hn w (Option.some.inj hw)) k
theorem r_astore_15 {l0 l1 l2 l3 l4 l5 l6 l7 l8 l9 l10 l11 l12 l13 l14 : Option Value} {o : Option Value} {R : List (Option Value)} {x : Nat} (hd : pm_i E pc .astore_n .astore 15 q) (hi : 15 < pm_nL E) (hn : ∀ w, l14 = some w → w.category = 1) (k : pm_V E q (l0 :: l1 :: l2 :: l3 :: l4 :: l5 :: l6 :: l7 :: l8 :: l9 :: l10 :: l11 :: l12 :: l13 :: l14 :: some (.ref x) :: R) st h b F) : pm_V E pc (l0 :: l1 :: l2 :: l3 :: l4 :: l5 :: l6 :: l7 :: l8 :: l9 :: l10 :: l11 :: l12 :: l13 :: l14 :: o :: R) (.ref x :: st) h b F := r_astoreG hd hi (fun w hw => hn w (Option.some.inj hw)) k
theorem r_astoreN_15 {l0 l1 l2 l3 l4 l5 l6 l7 l8 l9 l10 l11 l12 l13 l14 : Option Value} {o : Option Value} {R : List (Option Value)} (hd : pm_i E pc .astore_n .astore 15 q) (hi : 15 < pm_nL E) (hn : ∀ w, l14 = some w → w.category = 1) (k : pm_V E q (l0 :: l1 :: l2 :: l3 :: l4 :: l5 :: l6 :: l7 :: l8 :: l9 :: l10 :: l11 :: l12 :: l13 :: l14 :: some (.null) :: R) st h b F) : pm_V E pc (l0 :: l1 :: l2 :: l3 :: l4 :: l5 :: l6 :: l7 :: l8 :: l9 :: l10 :: l11 :: l12 :: l13 :: l14 :: o :: R) (.null :: st) h b F := r_astoreNG hd hi (fun w hw => hn w (Option.some.inj hw)) k
theorem r_lstore_15 {l0 l1 l2 l3 l4 l5 l6 l7 l8 l9 l10 l11 l12 l13 l14 : Option Value} {o o2 : Option Value} {R : List (Option Value)} {x : Int64} (hd : pm_i E pc .lstore_n .lstore 15 q) (hi : 16 < pm_nL E) (hn : ∀ w, l14 = some w → w.category = 1) (k : pm_V E q (l0 :: l1 :: l2 :: l3 :: l4 :: l5 :: l6 :: l7 :: l8 :: l9 :: l10 :: l11 :: l12 :: l13 :: l14 :: some (.long x) :: none :: R) st h b F) : pm_V E pc (l0 :: l1 :: l2 :: l3 :: l4 :: l5 :: l6 :: l7 :: l8 :: l9 :: l10 :: l11 :: l12 :: l13 :: l14 :: o :: o2 :: R) (.long x :: st) h b F := r_lstoreG hd hi (fun w hw => hn w (Option.some.inj hw)) k
theorem r_iinc_15 {l0 l1 l2 l3 l4 l5 l6 l7 l8 l9 l10 l11 l12 l13 l14 : Option Value} {R : List (Option Value)} {x n : Int32} (hd : pm_I E pc 15 n q) (hi : 15 < pm_nL E) (hn : ∀ w, l14 = some w → w.category = 1) (k : pm_V E q (l0 :: l1 :: l2 :: l3 :: l4 :: l5 :: l6 :: l7 :: l8 :: l9 :: l10 :: l11 :: l12 :: l13 :: l14 :: some (.int (x + n)) :: R) st h b F) : pm_V E pc (l0 :: l1 :: l2 :: l3 :: l4 :: l5 :: l6 :: l7 :: l8 :: l9 :: l10 :: l11 :: l12 :: l13 :: l14 :: some (.int x) :: R) st h b F := r_iincG hd rfl hi (fun w hw => hn w (Option.some.inj hw)) k
theorem r_iadd {x y : Int32} (hd : pm_D E pc 1 .iadd q) (k : pm_V E q L (.int (x + y) :: st) h b F) : pm_V E pc L (.int y :: .int x :: st) h b F := by
  intro G p l e s m args below meth c H locs ls cells slots Q X hR hl hL hc hs hE
  obtain ⟨d, rfl⟩ := hd
  exact lv_iadd X.1 X.2.1 d (k G p l e s m args below meth c H locs ls cells slots Q X hR hl hL hc hs hE)
theorem r_isub {x y : Int32} (hd : pm_D E pc 1 .isub q) (k : pm_V E q L (.int (x - y) :: st) h b F) : pm_V E pc L (.int y :: .int x :: st) h b F := by
  intro G p l e s m args below meth c H locs ls cells slots Q X hR hl hL hc hs hE
  obtain ⟨d, rfl⟩ := hd
  exact lv_isub X.1 X.2.1 d (k G p l e s m args below meth c H locs ls cells slots Q X hR hl hL hc hs hE)
theorem r_imul {x y : Int32} (hd : pm_D E pc 1 .imul q) (k : pm_V E q L (.int (x * y) :: st) h b F) : pm_V E pc L (.int y :: .int x :: st) h b F := by
  intro G p l e s m args below meth c H locs ls cells slots Q X hR hl hL hc hs hE
  obtain ⟨d, rfl⟩ := hd
  exact lv_imul X.1 X.2.1 d (k G p l e s m args below meth c H locs ls cells slots Q X hR hl hL hc hs hE)
theorem r_iand {x y : Int32} (hd : pm_D E pc 1 .iand q) (k : pm_V E q L (.int (x &&& y) :: st) h b F) : pm_V E pc L (.int y :: .int x :: st) h b F := by
  intro G p l e s m args below meth c H locs ls cells slots Q X hR hl hL hc hs hE
  obtain ⟨d, rfl⟩ := hd
  exact lv_iand X.1 X.2.1 d (k G p l e s m args below meth c H locs ls cells slots Q X hR hl hL hc hs hE)
theorem r_ior {x y : Int32} (hd : pm_D E pc 1 .ior q) (k : pm_V E q L (.int (x ||| y) :: st) h b F) : pm_V E pc L (.int y :: .int x :: st) h b F := by
  intro G p l e s m args below meth c H locs ls cells slots Q X hR hl hL hc hs hE
  obtain ⟨d, rfl⟩ := hd
  exact lv_ior X.1 X.2.1 d (k G p l e s m args below meth c H locs ls cells slots Q X hR hl hL hc hs hE)
theorem r_ixor {x y : Int32} (hd : pm_D E pc 1 .ixor q) (k : pm_V E q L (.int (x ^^^ y) :: st) h b F) : pm_V E pc L (.int y :: .int x :: st) h b F := by
  intro G p l e s m args below meth c H locs ls cells slots Q X hR hl hL hc hs hE
  obtain ⟨d, rfl⟩ := hd
  exact lv_ixor X.1 X.2.1 d (k G p l e s m args below meth c H locs ls cells slots Q X hR hl hL hc hs hE)
theorem r_ladd {x y : Int64} (hd : pm_D E pc 1 .ladd q) (k : pm_V E q L (.long (x + y) :: st) h b F) : pm_V E pc L (.long y :: .long x :: st) h b F := by
  intro G p l e s m args below meth c H locs ls cells slots Q X hR hl hL hc hs hE
  obtain ⟨d, rfl⟩ := hd
  exact lv_ladd X.1 X.2.1 d (k G p l e s m args below meth c H locs ls cells slots Q X hR hl hL hc hs hE)
theorem r_lsub {x y : Int64} (hd : pm_D E pc 1 .lsub q) (k : pm_V E q L (.long (x - y) :: st) h b F) : pm_V E pc L (.long y :: .long x :: st) h b F := by
  intro G p l e s m args below meth c H locs ls cells slots Q X hR hl hL hc hs hE
  obtain ⟨d, rfl⟩ := hd
  exact lv_lsub X.1 X.2.1 d (k G p l e s m args below meth c H locs ls cells slots Q X hR hl hL hc hs hE)
theorem r_lmul {x y : Int64} (hd : pm_D E pc 1 .lmul q) (k : pm_V E q L (.long (x * y) :: st) h b F) : pm_V E pc L (.long y :: .long x :: st) h b F := by
  intro G p l e s m args below meth c H locs ls cells slots Q X hR hl hL hc hs hE
  obtain ⟨d, rfl⟩ := hd
  exact lv_lmul X.1 X.2.1 d (k G p l e s m args below meth c H locs ls cells slots Q X hR hl hL hc hs hE)
theorem r_land {x y : Int64} (hd : pm_D E pc 1 .land q) (k : pm_V E q L (.long (x &&& y) :: st) h b F) : pm_V E pc L (.long y :: .long x :: st) h b F := by
  intro G p l e s m args below meth c H locs ls cells slots Q X hR hl hL hc hs hE
  obtain ⟨d, rfl⟩ := hd
  exact lv_land X.1 X.2.1 d (k G p l e s m args below meth c H locs ls cells slots Q X hR hl hL hc hs hE)
theorem r_lor {x y : Int64} (hd : pm_D E pc 1 .lor q) (k : pm_V E q L (.long (x ||| y) :: st) h b F) : pm_V E pc L (.long y :: .long x :: st) h b F := by
  intro G p l e s m args below meth c H locs ls cells slots Q X hR hl hL hc hs hE
  obtain ⟨d, rfl⟩ := hd
  exact lv_lor X.1 X.2.1 d (k G p l e s m args below meth c H locs ls cells slots Q X hR hl hL hc hs hE)
theorem r_lxor {x y : Int64} (hd : pm_D E pc 1 .lxor q) (k : pm_V E q L (.long (x ^^^ y) :: st) h b F) : pm_V E pc L (.long y :: .long x :: st) h b F := by
  intro G p l e s m args below meth c H locs ls cells slots Q X hR hl hL hc hs hE
  obtain ⟨d, rfl⟩ := hd
  exact lv_lxor X.1 X.2.1 d (k G p l e s m args below meth c H locs ls cells slots Q X hR hl hL hc hs hE)
theorem r_idiv {x y : Int32} (hd : pm_D E pc 1 .idiv q) (hne : ¬ y = 0) (k : pm_V E q L (.int (x / y) :: st) h b F) : pm_V E pc L (.int y :: .int x :: st) h b F := by
  intro G p l e s m args below meth c H locs ls cells slots Q X hR hl hL hc hs hE
  obtain ⟨d, rfl⟩ := hd
  exact lv_idiv X.1 X.2.1 d hne (k G p l e s m args below meth c H locs ls cells slots Q X hR hl hL hc hs hE)
theorem r_irem {x y : Int32} (hd : pm_D E pc 1 .irem q) (hne : ¬ y = 0) (k : pm_V E q L (.int (x - x / y * y) :: st) h b F) : pm_V E pc L (.int y :: .int x :: st) h b F := by
  intro G p l e s m args below meth c H locs ls cells slots Q X hR hl hL hc hs hE
  obtain ⟨d, rfl⟩ := hd
  exact lv_irem X.1 X.2.1 d hne (k G p l e s m args below meth c H locs ls cells slots Q X hR hl hL hc hs hE)
theorem r_ldiv {x y : Int64} (hd : pm_D E pc 1 .ldiv q) (hne : ¬ y = 0) (k : pm_V E q L (.long (x / y) :: st) h b F) : pm_V E pc L (.long y :: .long x :: st) h b F := by
  intro G p l e s m args below meth c H locs ls cells slots Q X hR hl hL hc hs hE
  obtain ⟨d, rfl⟩ := hd
  exact lv_ldiv X.1 X.2.1 d hne (k G p l e s m args below meth c H locs ls cells slots Q X hR hl hL hc hs hE)
theorem r_lrem {x y : Int64} (hd : pm_D E pc 1 .lrem q) (hne : ¬ y = 0) (k : pm_V E q L (.long (x - x / y * y) :: st) h b F) : pm_V E pc L (.long y :: .long x :: st) h b F := by
  intro G p l e s m args below meth c H locs ls cells slots Q X hR hl hL hc hs hE
  obtain ⟨d, rfl⟩ := hd
  exact lv_lrem X.1 X.2.1 d hne (k G p l e s m args below meth c H locs ls cells slots Q X hR hl hL hc hs hE)
theorem r_ineg {x : Int32} (hd : pm_D E pc 1 .ineg q) (k : pm_V E q L (.int (-x) :: st) h b F) : pm_V E pc L (.int x :: st) h b F := by
  intro G p l e s m args below meth c H locs ls cells slots Q X hR hl hL hc hs hE
  obtain ⟨d, rfl⟩ := hd
  exact lv_ineg X.1 X.2.1 d (k G p l e s m args below meth c H locs ls cells slots Q X hR hl hL hc hs hE)
theorem r_ishl {x y : Int32} (hd : pm_D E pc 1 .ishl q) (k : pm_V E q L (.int (x <<< (y &&& 31)) :: st) h b F) : pm_V E pc L (.int y :: .int x :: st) h b F := by
  intro G p l e s m args below meth c H locs ls cells slots Q X hR hl hL hc hs hE
  obtain ⟨d, rfl⟩ := hd
  exact lv_ishl X.1 X.2.1 d (k G p l e s m args below meth c H locs ls cells slots Q X hR hl hL hc hs hE)
theorem r_ishr {x y : Int32} (hd : pm_D E pc 1 .ishr q) (k : pm_V E q L (.int (x >>> (y &&& 31)) :: st) h b F) : pm_V E pc L (.int y :: .int x :: st) h b F := by
  intro G p l e s m args below meth c H locs ls cells slots Q X hR hl hL hc hs hE
  obtain ⟨d, rfl⟩ := hd
  exact lv_ishr X.1 X.2.1 d (k G p l e s m args below meth c H locs ls cells slots Q X hR hl hL hc hs hE)
theorem r_i2l {x : Int32} (hd : pm_D E pc 1 .i2l q) (k : pm_V E q L (.long x.toInt64 :: st) h b F) : pm_V E pc L (.int x :: st) h b F := by
  intro G p l e s m args below meth c H locs ls cells slots Q X hR hl hL hc hs hE
  obtain ⟨d, rfl⟩ := hd
  exact lv_i2l X.1 X.2.1 d rfl (k G p l e s m args below meth c H locs ls cells slots Q X hR hl hL hc hs hE)
theorem r_l2i {x : Int64} (hd : pm_D E pc 1 .l2i q) (k : pm_V E q L (.int x.toInt32 :: st) h b F) : pm_V E pc L (.long x :: st) h b F := by
  intro G p l e s m args below meth c H locs ls cells slots Q X hR hl hL hc hs hE
  obtain ⟨d, rfl⟩ := hd
  exact lv_l2i X.1 X.2.1 d rfl (k G p l e s m args below meth c H locs ls cells slots Q X hR hl hL hc hs hE)
theorem r_i2b {x : Int32} (hd : pm_D E pc 1 .i2b q) (k : pm_V E q L (.int x.toInt8.toInt32 :: st) h b F) : pm_V E pc L (.int x :: st) h b F := by
  intro G p l e s m args below meth c H locs ls cells slots Q X hR hl hL hc hs hE
  obtain ⟨d, rfl⟩ := hd
  exact lv_i2b X.1 X.2.1 d rfl (k G p l e s m args below meth c H locs ls cells slots Q X hR hl hL hc hs hE)
theorem r_lushr {x : Int64} {y : Int32} (hd : pm_D E pc 1 .lushr q) (k : pm_V E q L (.long (x.toUInt64 >>> (y.toInt64.toUInt64 &&& Int64.toUInt64 63)).toInt64 :: st) h b F) : pm_V E pc L (.int y :: .long x :: st) h b F := by
  intro G p l e s m args below meth c H locs ls cells slots Q X hR hl hL hc hs hE
  obtain ⟨d, rfl⟩ := hd
  exact lv_lushr X.1 X.2.1 d rfl (k G p l e s m args below meth c H locs ls cells slots Q X hR hl hL hc hs hE)
theorem r_lshl {x : Int64} {y : Int32} (hd : pm_D E pc 1 .lshl q) (k : pm_V E q L (.long (x <<< (y.toInt64 &&& 63)) :: st) h b F) : pm_V E pc L (.int y :: .long x :: st) h b F := by
  intro G p l e s m args below meth c H locs ls cells slots Q X hR hl hL hc hs hE
  obtain ⟨d, rfl⟩ := hd
  exact lv_lshl X.1 X.2.1 d rfl (k G p l e s m args below meth c H locs ls cells slots Q X hR hl hL hc hs hE)
theorem r_lshr {x : Int64} {y : Int32} (hd : pm_D E pc 1 .lshr q) (k : pm_V E q L (.long (x >>> (y.toInt64 &&& 63)) :: st) h b F) : pm_V E pc L (.int y :: .long x :: st) h b F := by
  intro G p l e s m args below meth c H locs ls cells slots Q X hR hl hL hc hs hE
  obtain ⟨d, rfl⟩ := hd
  exact lv_lshr X.1 X.2.1 d rfl (k G p l e s m args below meth c H locs ls cells slots Q X hR hl hL hc hs hE)
theorem r_lcmp {x y : Int64} (hd : pm_D E pc 1 .lcmp q) (k : pm_V E q L (.int (lg_cmp x y) :: st) h b F) : pm_V E pc L (.long y :: .long x :: st) h b F := by
  intro G p l e s m args below meth c H locs ls cells slots Q X hR hl hL hc hs hE
  obtain ⟨d, rfl⟩ := hd
  exact W.lcmp X.1 X.2.1 d (k G p l e s m args below meth c H locs ls cells slots Q X hR hl hL hc hs hE)
theorem r_dup {v : Value} (hd : pm_D E pc 1 .dup q) (hv : v.category = 1) (k : pm_V E q L (v :: v :: st) h b F) : pm_V E pc L (v :: st) h b F := by
  intro G p l e s m args below meth c H locs ls cells slots Q X hR hl hL hc hs hE
  obtain ⟨d, rfl⟩ := hd
  exact lv_dup X.1 X.2.1 d (by rw [pm_rv_cat]; exact hv) (k G p l e s m args below meth c H locs ls cells slots Q X hR hl hL hc hs hE)
theorem r_dup2 {v u : Value} (hd : pm_D E pc 1 .dup2 q) (hv : v.category = 1) (hu : u.category = 1) (k : pm_V E q L (v :: u :: v :: u :: st) h b F) : pm_V E pc L (v :: u :: st) h b F := by
  intro G p l e s m args below meth c H locs ls cells slots Q X hR hl hL hc hs hE
  obtain ⟨d, rfl⟩ := hd
  exact lv_dup2_11 X.1 X.2.1 d (by rw [pm_rv_cat]; exact hv) (by rw [pm_rv_cat]; exact hu) (k G p l e s m args below meth c H locs ls cells slots Q X hR hl hL hc hs hE)
theorem r_dup2l {v : Value} (hd : pm_D E pc 1 .dup2 q) (hv : v.category = 2) (k : pm_V E q L (v :: v :: st) h b F) : pm_V E pc L (v :: st) h b F := by
  intro G p l e s m args below meth c H locs ls cells slots Q X hR hl hL hc hs hE
  obtain ⟨d, rfl⟩ := hd
  exact lv_dup2_2 X.1 X.2.1 d (by rw [pm_rv_cat]; exact hv) (k G p l e s m args below meth c H locs ls cells slots Q X hR hl hL hc hs hE)
theorem r_if_eq {x : Int32} {t : Nat} (hd : pm_B E pc (fun z => .ifCond .eq z) t q) (kt : x = 0 → pm_V E t L st h b F) (kf : ¬ x = 0 → pm_V E q L st h b F) : pm_V E pc L (.int x :: st) h b F := by
  intro G p l e s m args below meth c H locs ls cells slots Q X hR hl hL hc hs hE
  obtain ⟨off, d, ht, rfl⟩ := hd
  exact lv_if_eq X.1 X.2.1 d ht (fun z => kt z G p l e s m args below meth c H locs ls cells slots Q X hR hl hL hc hs hE) (fun z => kf z G p l e s m args below meth c H locs ls cells slots Q X hR hl hL hc hs hE)
theorem r_icmp_eq {x y : Int32} {t : Nat} (hd : pm_B E pc (fun z => .if_icmp .eq z) t q) (kt : x = y → pm_V E t L st h b F) (kf : ¬ x = y → pm_V E q L st h b F) : pm_V E pc L (.int y :: .int x :: st) h b F := by
  intro G p l e s m args below meth c H locs ls cells slots Q X hR hl hL hc hs hE
  obtain ⟨off, d, ht, rfl⟩ := hd
  exact lv_icmp_eq X.1 X.2.1 d ht (fun z => kt z G p l e s m args below meth c H locs ls cells slots Q X hR hl hL hc hs hE) (fun z => kf z G p l e s m args below meth c H locs ls cells slots Q X hR hl hL hc hs hE)
theorem r_if_ne {x : Int32} {t : Nat} (hd : pm_B E pc (fun z => .ifCond .ne z) t q) (kt : ¬ x = 0 → pm_V E t L st h b F) (kf : x = 0 → pm_V E q L st h b F) : pm_V E pc L (.int x :: st) h b F := by
  intro G p l e s m args below meth c H locs ls cells slots Q X hR hl hL hc hs hE
  obtain ⟨off, d, ht, rfl⟩ := hd
  exact lv_if_ne X.1 X.2.1 d ht (fun z => kt z G p l e s m args below meth c H locs ls cells slots Q X hR hl hL hc hs hE) (fun z => kf z G p l e s m args below meth c H locs ls cells slots Q X hR hl hL hc hs hE)
theorem r_icmp_ne {x y : Int32} {t : Nat} (hd : pm_B E pc (fun z => .if_icmp .ne z) t q) (kt : ¬ x = y → pm_V E t L st h b F) (kf : x = y → pm_V E q L st h b F) : pm_V E pc L (.int y :: .int x :: st) h b F := by
  intro G p l e s m args below meth c H locs ls cells slots Q X hR hl hL hc hs hE
  obtain ⟨off, d, ht, rfl⟩ := hd
  exact lv_icmp_ne X.1 X.2.1 d ht (fun z => kt z G p l e s m args below meth c H locs ls cells slots Q X hR hl hL hc hs hE) (fun z => kf z G p l e s m args below meth c H locs ls cells slots Q X hR hl hL hc hs hE)
theorem r_if_lt {x : Int32} {t : Nat} (hd : pm_B E pc (fun z => .ifCond .lt z) t q) (kt : x < 0 → pm_V E t L st h b F) (kf : ¬ x < 0 → pm_V E q L st h b F) : pm_V E pc L (.int x :: st) h b F := by
  intro G p l e s m args below meth c H locs ls cells slots Q X hR hl hL hc hs hE
  obtain ⟨off, d, ht, rfl⟩ := hd
  exact lv_if_lt X.1 X.2.1 d ht (fun z => kt z G p l e s m args below meth c H locs ls cells slots Q X hR hl hL hc hs hE) (fun z => kf z G p l e s m args below meth c H locs ls cells slots Q X hR hl hL hc hs hE)
theorem r_icmp_lt {x y : Int32} {t : Nat} (hd : pm_B E pc (fun z => .if_icmp .lt z) t q) (kt : x < y → pm_V E t L st h b F) (kf : ¬ x < y → pm_V E q L st h b F) : pm_V E pc L (.int y :: .int x :: st) h b F := by
  intro G p l e s m args below meth c H locs ls cells slots Q X hR hl hL hc hs hE
  obtain ⟨off, d, ht, rfl⟩ := hd
  exact lv_icmp_lt X.1 X.2.1 d ht (fun z => kt z G p l e s m args below meth c H locs ls cells slots Q X hR hl hL hc hs hE) (fun z => kf z G p l e s m args below meth c H locs ls cells slots Q X hR hl hL hc hs hE)
theorem r_if_ge {x : Int32} {t : Nat} (hd : pm_B E pc (fun z => .ifCond .ge z) t q) (kt : 0 ≤ x → pm_V E t L st h b F) (kf : ¬ 0 ≤ x → pm_V E q L st h b F) : pm_V E pc L (.int x :: st) h b F := by
  intro G p l e s m args below meth c H locs ls cells slots Q X hR hl hL hc hs hE
  obtain ⟨off, d, ht, rfl⟩ := hd
  exact lv_if_ge X.1 X.2.1 d ht (fun z => kt z G p l e s m args below meth c H locs ls cells slots Q X hR hl hL hc hs hE) (fun z => kf z G p l e s m args below meth c H locs ls cells slots Q X hR hl hL hc hs hE)
theorem r_icmp_ge {x y : Int32} {t : Nat} (hd : pm_B E pc (fun z => .if_icmp .ge z) t q) (kt : y ≤ x → pm_V E t L st h b F) (kf : ¬ y ≤ x → pm_V E q L st h b F) : pm_V E pc L (.int y :: .int x :: st) h b F := by
  intro G p l e s m args below meth c H locs ls cells slots Q X hR hl hL hc hs hE
  obtain ⟨off, d, ht, rfl⟩ := hd
  exact lv_icmp_ge X.1 X.2.1 d ht (fun z => kt z G p l e s m args below meth c H locs ls cells slots Q X hR hl hL hc hs hE) (fun z => kf z G p l e s m args below meth c H locs ls cells slots Q X hR hl hL hc hs hE)
theorem r_if_gt {x : Int32} {t : Nat} (hd : pm_B E pc (fun z => .ifCond .gt z) t q) (kt : 0 < x → pm_V E t L st h b F) (kf : ¬ 0 < x → pm_V E q L st h b F) : pm_V E pc L (.int x :: st) h b F := by
  intro G p l e s m args below meth c H locs ls cells slots Q X hR hl hL hc hs hE
  obtain ⟨off, d, ht, rfl⟩ := hd
  exact lv_if_gt X.1 X.2.1 d ht (fun z => kt z G p l e s m args below meth c H locs ls cells slots Q X hR hl hL hc hs hE) (fun z => kf z G p l e s m args below meth c H locs ls cells slots Q X hR hl hL hc hs hE)
theorem r_icmp_gt {x y : Int32} {t : Nat} (hd : pm_B E pc (fun z => .if_icmp .gt z) t q) (kt : y < x → pm_V E t L st h b F) (kf : ¬ y < x → pm_V E q L st h b F) : pm_V E pc L (.int y :: .int x :: st) h b F := by
  intro G p l e s m args below meth c H locs ls cells slots Q X hR hl hL hc hs hE
  obtain ⟨off, d, ht, rfl⟩ := hd
  exact lv_icmp_gt X.1 X.2.1 d ht (fun z => kt z G p l e s m args below meth c H locs ls cells slots Q X hR hl hL hc hs hE) (fun z => kf z G p l e s m args below meth c H locs ls cells slots Q X hR hl hL hc hs hE)
theorem r_if_le {x : Int32} {t : Nat} (hd : pm_B E pc (fun z => .ifCond .le z) t q) (kt : x ≤ 0 → pm_V E t L st h b F) (kf : ¬ x ≤ 0 → pm_V E q L st h b F) : pm_V E pc L (.int x :: st) h b F := by
  intro G p l e s m args below meth c H locs ls cells slots Q X hR hl hL hc hs hE
  obtain ⟨off, d, ht, rfl⟩ := hd
  exact lv_if_le X.1 X.2.1 d ht (fun z => kt z G p l e s m args below meth c H locs ls cells slots Q X hR hl hL hc hs hE) (fun z => kf z G p l e s m args below meth c H locs ls cells slots Q X hR hl hL hc hs hE)
theorem r_icmp_le {x y : Int32} {t : Nat} (hd : pm_B E pc (fun z => .if_icmp .le z) t q) (kt : x ≤ y → pm_V E t L st h b F) (kf : ¬ x ≤ y → pm_V E q L st h b F) : pm_V E pc L (.int y :: .int x :: st) h b F := by
  intro G p l e s m args below meth c H locs ls cells slots Q X hR hl hL hc hs hE
  obtain ⟨off, d, ht, rfl⟩ := hd
  exact lv_icmp_le X.1 X.2.1 d ht (fun z => kt z G p l e s m args below meth c H locs ls cells slots Q X hR hl hL hc hs hE) (fun z => kf z G p l e s m args below meth c H locs ls cells slots Q X hR hl hL hc hs hE)
theorem r_goto {t : Nat} (hd : pm_B E pc (fun z => .goto z) t q) (k : pm_V E t L st h b F) : pm_V E pc L st h b F := by
  intro G p l e s m args below meth c H locs ls cells slots Q X hR hl hL hc hs hE
  obtain ⟨off, d, ht, rfl⟩ := hd
  exact lv_goto X.1 X.2.1 d ht (k G p l e s m args below meth c H locs ls cells slots Q X hR hl hL hc hs hE)
theorem r_ifnull {t x : Nat} (hd : pm_B E pc (fun z => .ifnull z) t q) (k : pm_V E q L st h b F) : pm_V E pc L (.ref x :: st) h b F := by
  intro G p l e s m args below meth c H locs ls cells slots Q X hR hl hL hc hs hE
  obtain ⟨off, d, ht, rfl⟩ := hd
  exact lv_ifnull X.1 X.2.1 d (k G p l e s m args below meth c H locs ls cells slots Q X hR hl hL hc hs hE)
theorem r_ifnullN {t : Nat} (hd : pm_B E pc (fun z => .ifnull z) t q) (k : pm_V E t L st h b F) : pm_V E pc L (.null :: st) h b F := by
  intro G p l e s m args below meth c H locs ls cells slots Q X hR hl hL hc hs hE
  obtain ⟨off, d, ht, rfl⟩ := hd
  exact lv_ifnullN X.1 X.2.1 d ht (k G p l e s m args below meth c H locs ls cells slots Q X hR hl hL hc hs hE)
theorem r_ifnonnull {t x : Nat} (hd : pm_B E pc (fun z => .ifnonnull z) t q) (k : pm_V E t L st h b F) : pm_V E pc L (.ref x :: st) h b F := by
  intro G p l e s m args below meth c H locs ls cells slots Q X hR hl hL hc hs hE
  obtain ⟨off, d, ht, rfl⟩ := hd
  exact lv_ifnonnull X.1 X.2.1 d ht (k G p l e s m args below meth c H locs ls cells slots Q X hR hl hL hc hs hE)
theorem r_ifnonnullN {t : Nat} (hd : pm_B E pc (fun z => .ifnonnull z) t q) (k : pm_V E q L st h b F) : pm_V E pc L (.null :: st) h b F := by
  intro G p l e s m args below meth c H locs ls cells slots Q X hR hl hL hc hs hE
  obtain ⟨off, d, ht, rfl⟩ := hd
  exact lv_ifnonnullN X.1 X.2.1 d (k G p l e s m args below meth c H locs ls cells slots Q X hR hl hL hc hs hE)
theorem r_ret {v : Option Value} (hd : pm_D E pc 1 (pm_ri v) q) (hst : st = v.toList) (hok : pm_rok (pm_rt E) v) (hF : F v h) : pm_V E pc L st h b F := by
  intro G p l e s m args below meth c H locs ls cells slots Q X hR hl hL hc hs hE
  subst hst
  exact hE v h hF hok H locs cells slots pc ls hR hl (by omega) (by omega) hd.1
theorem r_ireturn {x : Int32} (hd : pm_D E pc 1 .ireturn q) (hok : ∃ ty, pm_rt E = some ty ∧ narrow ty (.int x) = .int x) (hF : F (some (.int x)) h) : pm_V E pc L [.int x] h b F := r_ret (v := some (.int x)) hd rfl hok hF
theorem r_lreturn {x : Int64} (hd : pm_D E pc 1 .lreturn q) (hok : pm_rt E = some .long) (hF : F (some (.long x)) h) : pm_V E pc L [.long x] h b F := r_ret (v := some (.long x)) hd rfl hok hF
theorem r_areturn {x n} (hd : pm_D E pc 1 .areturn q) (hok : pm_rt E = some (.object n)) (hF : F (some (.ref x)) h) : pm_V E pc L [.ref x] h b F := r_ret (v := some (.ref x)) hd rfl ⟨n, hok⟩ hF
theorem r_areturnN {n} (hd : pm_D E pc 1 .areturn q) (hok : pm_rt E = some (.object n)) (hF : F (some .null) h) : pm_V E pc L [.null] h b F := r_ret (v := some .null) hd rfl ⟨n, hok⟩ hF
theorem r_return (hd : pm_D E pc 1 .return_ q) (hok : pm_rt E = none) (hF : F none h) : pm_V E pc L [] h b F := r_ret (v := none) hd rfl hok hF
/-- a tableswitch: below, above, and each place -/
def pm_T (E : pm_E) (pc : Nat) (lo hi : Int) (d : Nat) (ts : List Nat) : Prop := ∃ (dflt : Int) (offs : Array Int) (len : Nat), decode (pm_cc E) pc = .ok (.tableswitch dflt lo hi offs, len) ∧ (pc : Int) + dflt = (d : Int) ∧ offs.toList.map (fun o => (pc : Int) + o) = ts.map (fun (t : Nat) => (t : Int))
theorem r_switch {x : Int32} {lo hi : Int} {d : Nat} {ts : List Nat} (hd : pm_T E pc lo hi d ts) (ko : (x.toInt < lo ∨ hi < x.toInt) → pm_V E d L st h b F) (ki : ∀ t, ¬ x.toInt < lo → ¬ hi < x.toInt → ts[(x.toInt - lo).toNat]? = some t → pm_V E t L st h b F) (hl9 : (hi - lo).toNat < ts.length) : pm_V E pc L (.int x :: st) h b F := by
  intro G p l e s m args below meth c H locs ls cells slots Q X hR hl hL hc hs hE
  obtain ⟨dflt, offs, len, d0, d1, d2⟩ := hd
  by_cases h1 : x.toInt < lo ∨ hi < x.toInt
  · exact lv_tableOut X.1 X.2.1 d0 h1 d1 (ko h1 G p l e s m args below meth c H locs ls cells slots Q X hR hl hL hc hs hE)
  · have h2 : ¬ x.toInt < lo := fun z => h1 (Or.inl z)
    have h3 : ¬ hi < x.toInt := fun z => h1 (Or.inr z)
    have hlt : (x.toInt - lo).toNat < ts.length := by omega
    have e1 : ts[(x.toInt - lo).toNat]? = some ts[(x.toInt - lo).toNat] := List.getElem?_eq_getElem hlt
    have hlen : offs.toList.length = ts.length := by
      have := congrArg List.length d2
      simpa using this
    have hlt2 : (x.toInt - lo).toNat < offs.toList.length := by omega
    have e2 : (pc : Int) + offs.toList[(x.toInt - lo).toNat] = ((ts[(x.toInt - lo).toNat] : Nat) : Int) := by
      have e3 := congrArg (fun z => z[(x.toInt - lo).toNat]?) d2
      simp only [List.getElem?_map, List.getElem?_eq_getElem hlt, List.getElem?_eq_getElem hlt2, Option.map_some, Option.some.injEq] at e3
      exact e3
    refine lv_tableIn X.1 X.2.1 d0 h2 h3 (off := offs.toList[(x.toInt - lo).toNat]) ?_ e2 (ki _ h2 h3 e1 G p l e s m args below meth c H locs ls cells slots Q X hR hl hL hc hs hE)
    rw [← Array.getElem?_toList]
    exact List.getElem?_eq_getElem hlt2
end PM
end
section
abbrev pm_Y : Type := String × String × String
def pm_F (E : pm_E) (pc : Nat) (g : Nat → Instr) (y : pm_Y) (q : Nat) : Prop := ∃ idx : Nat, decode (pm_cc E) pc = .ok (g idx, 3) ∧ pc + 3 = q ∧ (Cond.fieldLink E.1.cls idx y.1 y.2.1 y.2.2 ∈ pm_tbl ∨ ∃ host : String, Cond.fieldLinkNest E.1.cls idx y.1 y.2.1 y.2.2 host ∈ pm_tbl)
/-- class ci's k-th field is y -/
def pm_S (ci k : Nat) (y : pm_Y) (fin : Bool) (ty : FieldType) : Prop := ∃ (C : String) (T : u_T) (N : Nat) (ty0 : Nat → FieldType), vwCl[ci]? = some (C, T, N) ∧ k < N ∧ T k = (y.1, y.2.1, y.2.2, fin) ∧ (∀ w ∈ u_ws C T N, w ∈ pm_tbl) ∧ parseFieldDescriptor y.2.2 = some ty ∧ (∀ j, j < N → parseFieldDescriptor (T j).2.2.1 = some (ty0 j)) ∧ ∀ i, i < N → ∀ j, j < N → i ≠ j → (T i).2.1 ≠ (T j).2.1
theorem pm_one {D : va_G} {cl : List vw_C} {x : Nat × va_E} {H : Heap} (h : va_at D cl x H) : va_P D cl [x] H := by
  intro k q hq
  have hz : k < 1 := (List.getElem?_eq_some_iff.mp hq).1
  rw [show k = 0 by omega] at hq
  cases hq
  exact h
theorem pm_nf {G : pm_G} {ty : FieldType} {v : Value} (hn : narrow ty v = v) (hf : fits ty v = true) : narrow ty (pm_rv G v) = pm_rv G v ∧ fits ty (pm_rv G v) = true := by
  cases v <;> first | exact ⟨hn, hf⟩ | (cases ty <;> first | exact ⟨rfl, rfl⟩ | (simp [fits] at hf))
theorem pm_ix_in {i : Int32} {j n : Nat} (h : ¬ i < 0 ∧ i.toNatClampNeg = j ∧ j < n) : vp_in i n := fun q => q.elim h.1 (fun z => by rw [h.2.1] at z; omega)
def pm_ix (i : Int32) (j n : Nat) : Prop := ¬ i < 0 ∧ i.toNatClampNeg = j ∧ j < n
theorem pm_ixN {j n : Nat} (h : j < n) (hn : n < 2 ^ 31) : pm_ix (nI j) j n := ⟨nI_pos (by omega), nI_clamp (by omega), h⟩
theorem pm_arr {G : pm_G} {a : Nat} {ty : FieldType} {x : vp_A} {H : Heap} (h : pm_at G a (.inl (ty, x)) H) (ht : ty ≠ .array .int) : 0 < a ∧ H[pm_ro G a]? = some (vp_cell (G.2.1 ty) (pm_ra G x)) := by
  rcases h with ⟨h1, -⟩ | ⟨h1, h2, -⟩
  · exact absurd h1 ht
  · exact ⟨h1, h2⟩
section PH
variable {E : pm_E} {pc q : Nat} {L : List (Option Value)} {st : List Value} {h : pm_H} {b : Nat × Nat} {F : Option Value → pm_H → Prop} {ad : Nat}
theorem r_get {y : pm_Y} {ci k : Nat} {fin : Bool} {ty : FieldType} {fs : List Value} {v : Value} (hd : pm_F E pc .getfield y q) (hS : pm_S ci k y fin ty) (hh : h.2 ad = some (.inr (ci, fs))) (hv : fs[k]? = some v) (K : pm_V E q L (v :: st) h b F) : pm_V E pc L (.ref ad :: st) h b F := by
  intro G p l e s m args below meth c H locs ls cells slots Q X hR hl hL hc hs hE
  obtain ⟨idx, d, rfl, hlk⟩ := hd
  obtain ⟨C, T, N, ty0, hci, hk, hT, hin, -⟩ := hS
  have hP := pm_one (hR.2.2.2 ad _ hh).2
  have hts : ∀ w ∈ pm_tbl, w.before args s = true := fun w hw => X.2.2.2.2.2.2.1 w hw args
  have hv' : (fs.map (pm_rv G))[k]? = some (pm_rv G v) := by rw [List.getElem?_map, hv]; rfl
  rcases hlk with hlk | ⟨host, hlk⟩
  · exact va_get (D := G.1) (ci := ci) (C := C) (T := T) (N := N) (ref := y.1) X.1 X.2.1 hts hin X.2.2.2.1 X.2.2.2.2.2.1 hP 0 rfl hci k hk (by rw [hT]; exact hts _ hlk) (by rw [hT]; exact fun _ z => z) hv' d (K G p l e s m args below meth c H locs ls cells slots Q X hR hl hL hc hs hE)
  · exact va_getN (D := G.1) (ci := ci) (C := C) (T := T) (N := N) (ref := y.1) X.1 X.2.1 hts hin X.2.2.2.1 X.2.2.2.2.2.1 hP 0 rfl hci k hk (by rw [hT]; exact hts _ hlk) (by rw [hT]; exact fun _ z => z) hv' d (K G p l e s m args below meth c H locs ls cells slots Q X hR hl hL hc hs hE)
theorem r_put {y : pm_Y} {ci k : Nat} {ty : FieldType} {fs : List Value} {v : Value} (hd : pm_F E pc .putfield y q) (hS : pm_S ci k y false ty) (hh : h.2 ad = some (.inr (ci, fs))) (hkl : k < fs.length) (hv : narrow ty v = v ∧ fits ty v = true) (K : pm_V E q L st (pm_up h ad (.inr (ci, fs.set k v))) b F) : pm_V E pc L (v :: .ref ad :: st) h b F := by
  intro G p l e s m args below meth c H locs ls cells slots Q X hR hl hL hc hs hE
  obtain ⟨idx, d, rfl, hlk⟩ := hd
  obtain ⟨C, T, N, ty0, hci, hk, hT, hin, hd5, hty, hnm⟩ := hS
  have hts : ∀ w ∈ pm_tbl, w.before args s = true := fun w hw => X.2.2.2.2.2.2.1 w hw args
  have hap := va_apart (own := E.1.cls) hts hin ty0 hty hnm X.2.2.2.2.2.1 hci
  obtain ⟨hpos, r, h1, cell, q1, q2, q3, q4⟩ := hR.2.2.2 ad _ hh
  have hr : r = (C, T, N) := Option.some.inj (h1.symm.trans hci)
  subst hr
  obtain ⟨hSl, hfc, kC, hkC, hkind⟩ := X.2.2.2.2.2.1.1 ci _ hci
  obtain ⟨cf, kf, fi, f, hi, hsl⟩ := hSl k hk
  have hlay := hts _ (hin _ (u_in_lay hk))
  unfold u_lay at hlay
  simp only [hT] at hlay hi
  rw [if_neg (by decide)] at hlay
  have hst := (u_facts hfc hkC (Or.inl hlay) hi).1
  have hnf := pm_nf (G := G) hv.1 hv.2
  have h6 := u_store hfc hkC hkind hlay hi hd5 hnf.1 hnf.2
  have fin : ∀ H' : Heap, H'[pm_ro G ad]? = some (cell.setSlot f.slot (pm_rv G v)) → H'.size = H.size → (∀ q, q ≠ pm_ro G ad → H'[q]? = H[q]?) → W p l e (pm_rm E) s m args below meth c H' (locs ++ [⟨pm_ro G ad, f.slot⟩]) cells slots Q (F0 m (pc + 3) ls (st.map (pm_rv G))) := by
    intro H' e1 e2 e3
    rw [hsl] at e1 ⊢
    refine K G p l e s m args below meth c H' (locs ++ [⟨pm_ro G ad, _⟩]) ls cells slots Q X (hR.up ⟨hpos, _, hci, t_OB.to (V := updV (vp_V (fs.map (pm_rv G))) k (pm_rv G v)) ⟨_, e1, q2, q3, t_set q4 hap hk (pm_rv G v)⟩ (fun j _ => ?_)⟩ e2 e3) ?_ hL hc hs hE
    · rw [vp_updV_set (by rw [List.length_map]; exact hkl), List.map_set]
    · intro q hq
      rcases List.mem_append.mp hq with z | z
      · exact hl q z
      · rw [List.mem_singleton.mp z]; exact pm_ro_pos hpos
  rcases hlk with hlk | ⟨host, hlk⟩
  · exact W.putK X.1 X.2.1 (f := f) ⟨X.2.2.2.1, hts _ hlk, ⟨_, _, _, hi⟩, hst⟩ (by rw [q2]; exact h6) q1 q3 (by rw [hsl]; exact k2_hasslot (q4 k hk)) rfl rfl d fin
  · exact va_WputK X.1 X.2.1 (f := f) X.2.2.2.1 (hts _ hlk) hi hst (by rw [q2]; exact h6) q1 q3 (by rw [hsl]; exact k2_hasslot (q4 k hk)) rfl rfl d fin
/-- a final field, in the class's own constructor -/
theorem r_putF {y : pm_Y} {ci k : Nat} {ty : FieldType} {fs : List Value} {v : Value} (hd : pm_F E pc .putfield y q) (hS : pm_S ci k y true ty) (hinit : E.1.name = "<init>") (hdecl : y.1 = E.1.cls) (hh : h.2 ad = some (.inr (ci, fs))) (hkl : k < fs.length) (hv : narrow ty v = v ∧ fits ty v = true) (K : pm_V E q L st (pm_up h ad (.inr (ci, fs.set k v))) b F) (hnest : ∀ idx host, Cond.fieldLinkNest E.1.cls idx y.1 y.2.1 y.2.2 host ∉ pm_tbl) : pm_V E pc L (v :: .ref ad :: st) h b F := by
  intro G p l e s m args below meth c H locs ls cells slots Q X hR hl hL hc hs hE
  obtain ⟨idx, d, rfl, hlk⟩ := hd
  obtain ⟨C, T, N, ty0, hci, hk, hT, hin, hd5, hty, hnm⟩ := hS
  have hts : ∀ w ∈ pm_tbl, w.before args s = true := fun w hw => X.2.2.2.2.2.2.1 w hw args
  have hap := va_apart (own := E.1.cls) hts hin ty0 hty hnm X.2.2.2.2.2.1 hci
  obtain ⟨hpos, r, h1, cell, q1, q2, q3, q4⟩ := hR.2.2.2 ad _ hh
  have hr : r = (C, T, N) := Option.some.inj (h1.symm.trans hci)
  subst hr
  obtain ⟨hSl, hfc, kC, hkC, hkind⟩ := X.2.2.2.2.2.1.1 ci _ hci
  obtain ⟨cf, kf, fi, f, hi, hsl⟩ := hSl k hk
  have hlay := hts _ (hin _ (u_in_lay hk))
  unfold u_lay at hlay
  simp only [hT] at hlay hi
  rw [if_pos trivial] at hlay
  have hst := (u_facts hfc hkC (Or.inr hlay) hi).1
  have hcf : m.cls = cf := by
    obtain ⟨_, _, c', _, _, _, -, -, hf', -, -, -, hown2, -⟩ := Cond.laysFinal_spec hlay
    have e1 : c' = cf := by have := hi.symm.trans hf'; simp at this; exact this.1.symm
    rw [hdecl] at hown2
    rw [← e1]; exact Option.some.inj (X.2.2.2.1.symm.trans hown2)
  have hnf := pm_nf (G := G) hv.1 hv.2
  have h6 := u_fits hfc hkC hkind (Or.inr hlay) hi hd5 hnf.1 hnf.2
  have hlk : Cond.fieldLink E.1.cls idx y.1 y.2.1 y.2.2 ∈ pm_tbl := by
    rcases hlk with z | ⟨host, z⟩
    · exact z
    · exact absurd z (hnest _ _)
  refine W.putFinK X.1 X.2.1 X.2.2.2.1 (hts _ hlk) hi hst hcf (by rw [X.2.2.2.2.1]; exact hinit) (by rw [q2]; exact h6) q1 q3 (by rw [hsl]; exact k2_hasslot (q4 k hk)) rfl rfl d fun H' e1 e2 e3 => ?_
  rw [hsl] at e1 ⊢
  refine K G p l e s m args below meth c H' (locs ++ [⟨pm_ro G ad, _⟩]) ls cells slots Q X (hR.up ⟨hpos, _, hci, t_OB.to (V := updV (vp_V (fs.map (pm_rv G))) k (pm_rv G v)) ⟨_, e1, q2, q3, t_set q4 hap hk (pm_rv G v)⟩ (fun j _ => ?_)⟩ e2 e3) ?_ hL hc hs hE
  · rw [vp_updV_set (by rw [List.length_map]; exact hkl), List.map_set]
  · intro q hq
    rcases List.mem_append.mp hq with z | z
    · exact hl q z
    · rw [List.mem_singleton.mp z]; exact pm_ro_pos hpos
theorem r_iald {n j : Nat} {f : Nat → Int32} {i : Int32} (hd : pm_D E pc 1 .iaload q) (hh : h.2 ad = some (.inl (.int, n, .inl f))) (hx : pm_ix i j n) (K : pm_V E q L (.int (f j) :: st) h b F) : pm_V E pc L (.int i :: .ref ad :: st) h b F := by
  intro G p l e s m args below meth c H locs ls cells slots Q X hR hl hL hc hs hE
  obtain ⟨d, rfl⟩ := hd
  have hA := pm_arr (hR.2.2.2 ad _ hh) (by decide)
  have hP : va_P G.1 vwCl [(pm_ro G ad, .inl (G.2.1 .int, n, .inl f))] H := pm_one hA.2
  refine va_iald (D := G.1) (cl := vwCl) X.1 X.2.1 X.2.2.2.2.2.1 hP 0 0 rfl rfl (pm_ix_in hx) d ?_
  rw [hx.2.1]
  exact K G p l e s m args below meth c H locs ls cells slots Q X hR hl hL hc hs hE
theorem r_bald {n j : Nat} {f : Nat → Int32} {i : Int32} (hd : pm_D E pc 1 .baload q) (hh : h.2 ad = some (.inl (.byte, n, .inl f))) (hx : pm_ix i j n) (K : pm_V E q L (.int (f j) :: st) h b F) : pm_V E pc L (.int i :: .ref ad :: st) h b F := by
  intro G p l e s m args below meth c H locs ls cells slots Q X hR hl hL hc hs hE
  obtain ⟨d, rfl⟩ := hd
  have hA := pm_arr (hR.2.2.2 ad _ hh) (by decide)
  have hP : va_P G.1 vwCl [(pm_ro G ad, .inl (G.2.1 .byte, n, .inl f))] H := pm_one hA.2
  refine va_bald (D := G.1) (cl := vwCl) X.1 X.2.1 X.2.2.2.2.2.1 hP 0 2 rfl rfl (pm_ix_in hx) d ?_
  rw [hx.2.1]
  exact K G p l e s m args below meth c H locs ls cells slots Q X hR hl hL hc hs hE
theorem r_zald {n j : Nat} {f : Nat → Int32} {i : Int32} (hd : pm_D E pc 1 .baload q) (hh : h.2 ad = some (.inl (.boolean, n, .inl f))) (hx : pm_ix i j n) (K : pm_V E q L (.int (f j) :: st) h b F) : pm_V E pc L (.int i :: .ref ad :: st) h b F := by
  intro G p l e s m args below meth c H locs ls cells slots Q X hR hl hL hc hs hE
  obtain ⟨d, rfl⟩ := hd
  have hA := pm_arr (hR.2.2.2 ad _ hh) (by decide)
  have hP : va_P G.1 vwCl [(pm_ro G ad, .inl (G.2.1 .boolean, n, .inl f))] H := pm_one hA.2
  refine va_zald (D := G.1) (cl := vwCl) X.1 X.2.1 X.2.2.2.2.2.1 hP 0 3 rfl rfl (pm_ix_in hx) d ?_
  rw [hx.2.1]
  exact K G p l e s m args below meth c H locs ls cells slots Q X hR hl hL hc hs hE
theorem r_lald {n j : Nat} {f : Nat → Int64} {i : Int32} (hd : pm_D E pc 1 .laload q) (hh : h.2 ad = some (.inl (.long, n, .inr (.inl f)))) (hx : pm_ix i j n) (K : pm_V E q L (.long (f j) :: st) h b F) : pm_V E pc L (.int i :: .ref ad :: st) h b F := by
  intro G p l e s m args below meth c H locs ls cells slots Q X hR hl hL hc hs hE
  obtain ⟨d, rfl⟩ := hd
  have hA := pm_arr (hR.2.2.2 ad _ hh) (by decide)
  have hP : va_P G.1 vwCl [(pm_ro G ad, .inl (G.2.1 .long, n, .inr (.inl f)))] H := pm_one hA.2
  refine va_lald (D := G.1) (cl := vwCl) X.1 X.2.1 X.2.2.2.2.2.1 hP 0 1 rfl rfl (pm_ix_in hx) d ?_
  rw [hx.2.1]
  exact K G p l e s m args below meth c H locs ls cells slots Q X hR hl hL hc hs hE
theorem r_aaldRX1 {n j : Nat} {f : Nat → Option Nat} {i : Int32} (hd : pm_D E pc 1 .aaload q) (hh : h.2 ad = some (.inl (.object RX1, n, .inr (.inr (.inr (.inr f)))))) (hx : pm_ix i j n) (K : pm_V E q L (va_rf (f j) :: st) h b F) : pm_V E pc L (.int i :: .ref ad :: st) h b F := by
  intro G p l e s m args below meth c H locs ls cells slots Q X hR hl hL hc hs hE
  obtain ⟨d, rfl⟩ := hd
  have hA := pm_arr (hR.2.2.2 ad _ hh) (fun z => by cases z)
  have hP : va_P G.1 vwCl [(pm_ro G ad, .inl (G.2.1 (.object RX1), n, .inr (.inr (.inr (.inr (fun j => (f j).map (pm_ro G)))))))] H := pm_one hA.2
  refine va_aldq (D := G.1) (cl := vwCl) X.1 X.2.1 X.2.2.2.2.2.1 hP 0 4 rfl rfl (pm_ix_in hx) d ?_
  have K := K G p l e s m args below meth c H locs ls cells slots Q X hR hl hL hc hs hE
  rw [hx.2.1]
  rw [List.map_cons, pm_rv_rf] at K
  exact K
theorem r_aastRX1 {n j vad ci : Nat} {fs : List Value} {f : Nat → Option Nat} {i : Int32} {r : vw_C} (hd : pm_D E pc 1 .aastore q) (hh : h.2 ad = some (.inl (.object RX1, n, .inr (.inr (.inr (.inr f)))))) (hv : h.2 vad = some (.inr (ci, fs))) (hci : vwCl[ci]? = some r) (hrc : r.1 = RX1 ∨ Cond.castable r.1 RX1 ∈ pm_tbl) (hx : pm_ix i j n) (K : pm_V E q L st (pm_up h ad (.inl (.object RX1, n, .inr (.inr (.inr (.inr (va_up f j (some vad)))))))) b F) : pm_V E pc L (.ref vad :: .int i :: .ref ad :: st) h b F := by
  intro G p l e s m args below meth c H locs ls cells slots Q X hR hl hL hc hs hE
  obtain ⟨d, rfl⟩ := hd
  have hA := pm_arr (hR.2.2.2 ad _ hh) (fun z => by cases z)
  obtain ⟨-, r', hr', cellV, g1, g2, g3, -⟩ := hR.2.2.2 vad _ hv
  have hcls := (X.2.2.2.2.2.1.1 ci r hci).2
  obtain ⟨kA, comp, k1, k2, k3, -⟩ := (X.2.2.2.2.2.1.2 4 (G.2.1 (.object RX1), .object RX1) rfl).2
  obtain ⟨kC, hkC, -⟩ := hcls.2
  have h0 := hx.1
  have hlt : i.toNatClampNeg < n := by rw [hx.2.1]; exact hx.2.2
  have hasg : s.vm.assignable cellV.cls comp = true := by
    rw [g2]
    rcases hrc with z | z
    · have hcomp : comp = G.1.1 ci := Option.some.inj (k3.symm.trans (by rw [← z]; exact hcls.1))
      rw [hcomp]
      exact va_assign hcls
    · obtain ⟨c0, t9, f1, f2, f3⟩ := Cond.castable_spec (X.2.2.2.2.2.2.1 _ z args)
      cases hcls.1.symm.trans f1
      cases k3.symm.trans f2
      exact f3
  obtain ⟨kcomp, hkcomp, -⟩ := Vm.findClass_spec k3
  refine W.aast X.1 X.2.1 hA.2 (fun q h => by cases h) (fun h => by cases h) k1 k2 rfl hkcomp ⟨h0, by show _ < (arrV _ _ _).slots.size; rw [arrV_size]; exact hlt⟩ g1 (fun q h => by rw [g3] at h; cases h) (by rw [g2]; exact hkC) hasg rfl rfl d fun H1 e1 z1 oq => ?_
  refine K G p l e s m args below meth c H1 _ ls cells slots Q X (hR.up (Or.inr ⟨hA.1, ?_, (fun z => by cases z)⟩) z1 oq) ?_ hL hc hs hE
  · rw [e1]
    show some ((vp_cell (G.2.1 (.object RX1)) (n, .inr (.inr (.inr (.inr (fun j => (f j).map (pm_ro G))))))).setSlot i.toNatClampNeg (.ref (pm_ro G vad))) = some (vp_cell (G.2.1 (.object RX1)) (n, .inr (.inr (.inr (.inr (fun q => (va_up f j (some vad) q).map (pm_ro G)))))))
    rw [vp_cell_q, vp_cell_q, arrV_store, hx.2.1]
    congr 2
    funext q
    by_cases hq : q = j
    · subst hq
      simp [updV, va_up, va_rf]
    · simp [updV, va_up, hq]
  · intro q hq
    rcases List.mem_append.mp hq with z | z
    · exact hl q z
    · rw [List.mem_singleton.mp z]; exact pm_ro_pos hA.1
theorem r_aaldRX3 {n j : Nat} {f : Nat → Option Nat} {i : Int32} (hd : pm_D E pc 1 .aaload q) (hh : h.2 ad = some (.inl (.object RX3, n, .inr (.inr (.inr (.inr f)))))) (hx : pm_ix i j n) (K : pm_V E q L (va_rf (f j) :: st) h b F) : pm_V E pc L (.int i :: .ref ad :: st) h b F := by
  intro G p l e s m args below meth c H locs ls cells slots Q X hR hl hL hc hs hE
  obtain ⟨d, rfl⟩ := hd
  have hA := pm_arr (hR.2.2.2 ad _ hh) (fun z => by cases z)
  have hP : va_P G.1 vwCl [(pm_ro G ad, .inl (G.2.1 (.object RX3), n, .inr (.inr (.inr (.inr (fun j => (f j).map (pm_ro G)))))))] H := pm_one hA.2
  refine va_aldq (D := G.1) (cl := vwCl) X.1 X.2.1 X.2.2.2.2.2.1 hP 0 5 rfl rfl (pm_ix_in hx) d ?_
  have K := K G p l e s m args below meth c H locs ls cells slots Q X hR hl hL hc hs hE
  rw [hx.2.1]
  rw [List.map_cons, pm_rv_rf] at K
  exact K
theorem r_aastRX3 {n j vad ci : Nat} {fs : List Value} {f : Nat → Option Nat} {i : Int32} {r : vw_C} (hd : pm_D E pc 1 .aastore q) (hh : h.2 ad = some (.inl (.object RX3, n, .inr (.inr (.inr (.inr f)))))) (hv : h.2 vad = some (.inr (ci, fs))) (hci : vwCl[ci]? = some r) (hrc : r.1 = RX3 ∨ Cond.castable r.1 RX3 ∈ pm_tbl) (hx : pm_ix i j n) (K : pm_V E q L st (pm_up h ad (.inl (.object RX3, n, .inr (.inr (.inr (.inr (va_up f j (some vad)))))))) b F) : pm_V E pc L (.ref vad :: .int i :: .ref ad :: st) h b F := by
  intro G p l e s m args below meth c H locs ls cells slots Q X hR hl hL hc hs hE
  obtain ⟨d, rfl⟩ := hd
  have hA := pm_arr (hR.2.2.2 ad _ hh) (fun z => by cases z)
  obtain ⟨-, r', hr', cellV, g1, g2, g3, -⟩ := hR.2.2.2 vad _ hv
  have hcls := (X.2.2.2.2.2.1.1 ci r hci).2
  obtain ⟨kA, comp, k1, k2, k3, -⟩ := (X.2.2.2.2.2.1.2 5 (G.2.1 (.object RX3), .object RX3) rfl).2
  obtain ⟨kC, hkC, -⟩ := hcls.2
  have h0 := hx.1
  have hlt : i.toNatClampNeg < n := by rw [hx.2.1]; exact hx.2.2
  have hasg : s.vm.assignable cellV.cls comp = true := by
    rw [g2]
    rcases hrc with z | z
    · have hcomp : comp = G.1.1 ci := Option.some.inj (k3.symm.trans (by rw [← z]; exact hcls.1))
      rw [hcomp]
      exact va_assign hcls
    · obtain ⟨c0, t9, f1, f2, f3⟩ := Cond.castable_spec (X.2.2.2.2.2.2.1 _ z args)
      cases hcls.1.symm.trans f1
      cases k3.symm.trans f2
      exact f3
  obtain ⟨kcomp, hkcomp, -⟩ := Vm.findClass_spec k3
  refine W.aast X.1 X.2.1 hA.2 (fun q h => by cases h) (fun h => by cases h) k1 k2 rfl hkcomp ⟨h0, by show _ < (arrV _ _ _).slots.size; rw [arrV_size]; exact hlt⟩ g1 (fun q h => by rw [g3] at h; cases h) (by rw [g2]; exact hkC) hasg rfl rfl d fun H1 e1 z1 oq => ?_
  refine K G p l e s m args below meth c H1 _ ls cells slots Q X (hR.up (Or.inr ⟨hA.1, ?_, (fun z => by cases z)⟩) z1 oq) ?_ hL hc hs hE
  · rw [e1]
    show some ((vp_cell (G.2.1 (.object RX3)) (n, .inr (.inr (.inr (.inr (fun j => (f j).map (pm_ro G))))))).setSlot i.toNatClampNeg (.ref (pm_ro G vad))) = some (vp_cell (G.2.1 (.object RX3)) (n, .inr (.inr (.inr (.inr (fun q => (va_up f j (some vad) q).map (pm_ro G)))))))
    rw [vp_cell_q, vp_cell_q, arrV_store, hx.2.1]
    congr 2
    funext q
    by_cases hq : q = j
    · subst hq
      simp [updV, va_up, va_rf]
    · simp [updV, va_up, hq]
  · intro q hq
    rcases List.mem_append.mp hq with z | z
    · exact hl q z
    · rw [List.mem_singleton.mp z]; exact pm_ro_pos hA.1
theorem r_aaldRX0 {n j : Nat} {f : Nat → Option Nat} {i : Int32} (hd : pm_D E pc 1 .aaload q) (hh : h.2 ad = some (.inl (.object RX0, n, .inr (.inr (.inr (.inr f)))))) (hx : pm_ix i j n) (K : pm_V E q L (va_rf (f j) :: st) h b F) : pm_V E pc L (.int i :: .ref ad :: st) h b F := by
  intro G p l e s m args below meth c H locs ls cells slots Q X hR hl hL hc hs hE
  obtain ⟨d, rfl⟩ := hd
  have hA := pm_arr (hR.2.2.2 ad _ hh) (fun z => by cases z)
  have hP : va_P G.1 vwCl [(pm_ro G ad, .inl (G.2.1 (.object RX0), n, .inr (.inr (.inr (.inr (fun j => (f j).map (pm_ro G)))))))] H := pm_one hA.2
  refine va_aldq (D := G.1) (cl := vwCl) X.1 X.2.1 X.2.2.2.2.2.1 hP 0 6 rfl rfl (pm_ix_in hx) d ?_
  have K := K G p l e s m args below meth c H locs ls cells slots Q X hR hl hL hc hs hE
  rw [hx.2.1]
  rw [List.map_cons, pm_rv_rf] at K
  exact K
theorem r_aastRX0 {n j vad ci : Nat} {fs : List Value} {f : Nat → Option Nat} {i : Int32} {r : vw_C} (hd : pm_D E pc 1 .aastore q) (hh : h.2 ad = some (.inl (.object RX0, n, .inr (.inr (.inr (.inr f)))))) (hv : h.2 vad = some (.inr (ci, fs))) (hci : vwCl[ci]? = some r) (hrc : r.1 = RX0 ∨ Cond.castable r.1 RX0 ∈ pm_tbl) (hx : pm_ix i j n) (K : pm_V E q L st (pm_up h ad (.inl (.object RX0, n, .inr (.inr (.inr (.inr (va_up f j (some vad)))))))) b F) : pm_V E pc L (.ref vad :: .int i :: .ref ad :: st) h b F := by
  intro G p l e s m args below meth c H locs ls cells slots Q X hR hl hL hc hs hE
  obtain ⟨d, rfl⟩ := hd
  have hA := pm_arr (hR.2.2.2 ad _ hh) (fun z => by cases z)
  obtain ⟨-, r', hr', cellV, g1, g2, g3, -⟩ := hR.2.2.2 vad _ hv
  have hcls := (X.2.2.2.2.2.1.1 ci r hci).2
  obtain ⟨kA, comp, k1, k2, k3, -⟩ := (X.2.2.2.2.2.1.2 6 (G.2.1 (.object RX0), .object RX0) rfl).2
  obtain ⟨kC, hkC, -⟩ := hcls.2
  have h0 := hx.1
  have hlt : i.toNatClampNeg < n := by rw [hx.2.1]; exact hx.2.2
  have hasg : s.vm.assignable cellV.cls comp = true := by
    rw [g2]
    rcases hrc with z | z
    · have hcomp : comp = G.1.1 ci := Option.some.inj (k3.symm.trans (by rw [← z]; exact hcls.1))
      rw [hcomp]
      exact va_assign hcls
    · obtain ⟨c0, t9, f1, f2, f3⟩ := Cond.castable_spec (X.2.2.2.2.2.2.1 _ z args)
      cases hcls.1.symm.trans f1
      cases k3.symm.trans f2
      exact f3
  obtain ⟨kcomp, hkcomp, -⟩ := Vm.findClass_spec k3
  refine W.aast X.1 X.2.1 hA.2 (fun q h => by cases h) (fun h => by cases h) k1 k2 rfl hkcomp ⟨h0, by show _ < (arrV _ _ _).slots.size; rw [arrV_size]; exact hlt⟩ g1 (fun q h => by rw [g3] at h; cases h) (by rw [g2]; exact hkC) hasg rfl rfl d fun H1 e1 z1 oq => ?_
  refine K G p l e s m args below meth c H1 _ ls cells slots Q X (hR.up (Or.inr ⟨hA.1, ?_, (fun z => by cases z)⟩) z1 oq) ?_ hL hc hs hE
  · rw [e1]
    show some ((vp_cell (G.2.1 (.object RX0)) (n, .inr (.inr (.inr (.inr (fun j => (f j).map (pm_ro G))))))).setSlot i.toNatClampNeg (.ref (pm_ro G vad))) = some (vp_cell (G.2.1 (.object RX0)) (n, .inr (.inr (.inr (.inr (fun q => (va_up f j (some vad) q).map (pm_ro G)))))))
    rw [vp_cell_q, vp_cell_q, arrV_store, hx.2.1]
    congr 2
    funext q
    by_cases hq : q = j
    · subst hq
      simp [updV, va_up, va_rf]
    · simp [updV, va_up, hq]
  · intro q hq
    rcases List.mem_append.mp hq with z | z
    · exact hl q z
    · rw [List.mem_singleton.mp z]; exact pm_ro_pos hA.1
theorem r_iast {n j : Nat} {f : Nat → Int32} {i : Int32} {x : Int32} (hd : pm_D E pc 1 .iastore q) (hh : h.2 ad = some (.inl (.int, n, .inl f))) (hx : pm_ix i j n) (K : pm_V E q L st (pm_up h ad (.inl (.int, n, .inl (upd f j x)))) b F) : pm_V E pc L (.int x :: .int i :: .ref ad :: st) h b F := by
  intro G p l e s m args below meth c H locs ls cells slots Q X hR hl hL hc hs hE
  obtain ⟨d, rfl⟩ := hd
  have hA := pm_arr (hR.2.2.2 ad _ hh) (by decide)
  refine W.iast X.1 X.2.1 hA.2 ((X.2.2.2.2.2.1.2 0 (G.2.1 .int, .int) rfl).1 n (fun j => .int (f j))) (fun q => by cases q) (by show ¬ (i < 0 ∨ (arrV _ _ _).slots.size ≤ _); rw [arrV_size]; exact pm_ix_in hx) rfl rfl d fun H1 e1 z1 oq => ?_
  refine K G p l e s m args below meth c H1 _ ls cells slots Q X (hR.up (Or.inr ⟨hA.1, ?_, (fun z => by cases z)⟩) z1 oq) ?_ hL hc hs hE
  · rw [e1]
    show some ((vp_cell (G.2.1 .int) (n, .inl f)).setSlot i.toNatClampNeg (.int x)) = some (vp_cell (G.2.1 .int) (n, .inl (upd f j x)))
    rw [vp_cell_i, vp_cell_i, arrV_store, hx.2.1]
    congr 2
    funext q
    by_cases hq : q = j
    · subst hq
      simp [updV, upd]
      try rfl
    · simp [updV, upd, hq]
  · intro q hq
    rcases List.mem_append.mp hq with z | z
    · exact hl q z
    · rw [List.mem_singleton.mp z]; exact pm_ro_pos hA.1
theorem r_bast {n j : Nat} {f : Nat → Int32} {i : Int32} {x : Int32} (hd : pm_D E pc 1 .bastore q) (hh : h.2 ad = some (.inl (.byte, n, .inl f))) (hx : pm_ix i j n) (K : pm_V E q L st (pm_up h ad (.inl (.byte, n, .inl (upd f j (vp_nar .byte x))))) b F) : pm_V E pc L (.int x :: .int i :: .ref ad :: st) h b F := by
  intro G p l e s m args below meth c H locs ls cells slots Q X hR hl hL hc hs hE
  obtain ⟨d, rfl⟩ := hd
  have hA := pm_arr (hR.2.2.2 ad _ hh) (by decide)
  refine W.bast X.1 X.2.1 hA.2 ((X.2.2.2.2.2.1.2 2 (G.2.1 .byte, .byte) rfl).1 n (fun j => .int (f j))) (fun q => by cases q) (by show ¬ (i < 0 ∨ (arrV _ _ _).slots.size ≤ _); rw [arrV_size]; exact pm_ix_in hx) rfl rfl d fun H1 e1 z1 oq => ?_
  refine K G p l e s m args below meth c H1 _ ls cells slots Q X (hR.up (Or.inr ⟨hA.1, ?_, (fun z => by cases z)⟩) z1 oq) ?_ hL hc hs hE
  · rw [e1]
    show some ((vp_cell (G.2.1 .byte) (n, .inl f)).setSlot i.toNatClampNeg (narrow .byte (.int x))) = some (vp_cell (G.2.1 .byte) (n, .inl (upd f j (vp_nar .byte x))))
    rw [vp_cell_i, vp_cell_i, arrV_store, hx.2.1]
    congr 2
    funext q
    by_cases hq : q = j
    · subst hq
      simp [updV, upd, vp_nar]
      try rfl
    · simp [updV, upd, vp_nar, hq]
  · intro q hq
    rcases List.mem_append.mp hq with z | z
    · exact hl q z
    · rw [List.mem_singleton.mp z]; exact pm_ro_pos hA.1
theorem r_zast {n j : Nat} {f : Nat → Int32} {i : Int32} {x : Int32} (hd : pm_D E pc 1 .bastore q) (hh : h.2 ad = some (.inl (.boolean, n, .inl f))) (hx : pm_ix i j n) (K : pm_V E q L st (pm_up h ad (.inl (.boolean, n, .inl (upd f j (vp_nar .boolean x))))) b F) : pm_V E pc L (.int x :: .int i :: .ref ad :: st) h b F := by
  intro G p l e s m args below meth c H locs ls cells slots Q X hR hl hL hc hs hE
  obtain ⟨d, rfl⟩ := hd
  have hA := pm_arr (hR.2.2.2 ad _ hh) (by decide)
  refine W.zast X.1 X.2.1 hA.2 ((X.2.2.2.2.2.1.2 3 (G.2.1 .boolean, .boolean) rfl).1 n (fun j => .int (f j))) (fun q => by cases q) (by show ¬ (i < 0 ∨ (arrV _ _ _).slots.size ≤ _); rw [arrV_size]; exact pm_ix_in hx) rfl rfl d fun H1 e1 z1 oq => ?_
  refine K G p l e s m args below meth c H1 _ ls cells slots Q X (hR.up (Or.inr ⟨hA.1, ?_, (fun z => by cases z)⟩) z1 oq) ?_ hL hc hs hE
  · rw [e1]
    show some ((vp_cell (G.2.1 .boolean) (n, .inl f)).setSlot i.toNatClampNeg (narrow .boolean (.int x))) = some (vp_cell (G.2.1 .boolean) (n, .inl (upd f j (vp_nar .boolean x))))
    rw [vp_cell_i, vp_cell_i, arrV_store, hx.2.1]
    congr 2
    funext q
    by_cases hq : q = j
    · subst hq
      simp [updV, upd, vp_nar]
      try rfl
    · simp [updV, upd, vp_nar, hq]
  · intro q hq
    rcases List.mem_append.mp hq with z | z
    · exact hl q z
    · rw [List.mem_singleton.mp z]; exact pm_ro_pos hA.1
theorem r_last {n j : Nat} {f : Nat → Int64} {i : Int32} {x : Int64} (hd : pm_D E pc 1 .lastore q) (hh : h.2 ad = some (.inl (.long, n, .inr (.inl f)))) (hx : pm_ix i j n) (K : pm_V E q L st (pm_up h ad (.inl (.long, n, .inr (.inl (vp_updL f j x))))) b F) : pm_V E pc L (.long x :: .int i :: .ref ad :: st) h b F := by
  intro G p l e s m args below meth c H locs ls cells slots Q X hR hl hL hc hs hE
  obtain ⟨d, rfl⟩ := hd
  have hA := pm_arr (hR.2.2.2 ad _ hh) (by decide)
  refine W.last X.1 X.2.1 hA.2 ((X.2.2.2.2.2.1.2 1 (G.2.1 .long, .long) rfl).1 n (fun j => .long (f j))) (fun q => by cases q) (by show ¬ (i < 0 ∨ (arrV _ _ _).slots.size ≤ _); rw [arrV_size]; exact pm_ix_in hx) rfl rfl d fun H1 e1 z1 oq => ?_
  refine K G p l e s m args below meth c H1 _ ls cells slots Q X (hR.up (Or.inr ⟨hA.1, ?_, (fun z => by cases z)⟩) z1 oq) ?_ hL hc hs hE
  · rw [e1]
    show some ((vp_cell (G.2.1 .long) (n, .inr (.inl f))).setSlot i.toNatClampNeg (.long x)) = some (vp_cell (G.2.1 .long) (n, .inr (.inl (vp_updL f j x))))
    rw [vp_cell_l, vp_cell_l, arrV_store, hx.2.1]
    congr 2
    funext q
    by_cases hq : q = j
    · subst hq
      simp [updV, vp_updL]
      try rfl
    · simp [updV, vp_updL, hq]
  · intro q hq
    rcases List.mem_append.mp hq with z | z
    · exact hl q z
    · rw [List.mem_singleton.mp z]; exact pm_ro_pos hA.1
theorem r_sld {n j : Nat} {f : Nat → Int32} {i : Int32} (hd : pm_D E pc 1 .iaload q) (hh : h.2 ad = some (.inl (.array .int, n, .inl f))) (hx : pm_ix i j n) (K : pm_V E q L (.int (f j) :: st) h b F) : pm_V E pc L (.int i :: .ref ad :: st) h b F := by
  intro G p l e s m args below meth c H locs ls cells slots Q X hR hl hL hc hs hE
  obtain ⟨d, rfl⟩ := hd
  rcases hR.2.2.2 ad _ hh with ⟨-, -, h1, h2, f', e', h3, h4⟩ | ⟨-, -, z⟩
  · have e2 : f = f' := Sum.inl.inj e'
    subst e2
    exact W.iald (v := .int (f j)) X.1 X.2.1 h1 X.2.2.2.2.2.2.2.2 h2 (by rw [h3]; exact pm_ix_in hx) (by rw [hx.2.1]; exact h4 j hx.2.2) rfl rfl d (K G p l e s m args below meth c H locs ls cells slots Q X hR hl hL hc hs hE)
  · exact absurd rfl z
theorem r_slen {n : Nat} {f : Nat → Int32} (hd : pm_D E pc 1 .arraylength q) (hh : h.2 ad = some (.inl (.array .int, n, .inl f))) (K : pm_V E q L (.int (nI n) :: st) h b F) : pm_V E pc L (.ref ad :: st) h b F := by
  intro G p l e s m args below meth c H locs ls cells slots Q X hR hl hL hc hs hE
  obtain ⟨d, rfl⟩ := hd
  rcases hR.2.2.2 ad _ hh with ⟨-, -, h1, h2, f', e', h3, h4⟩ | ⟨-, -, z⟩
  · exact W.alen (n := nI n) X.1 X.2.1 h1 X.2.2.2.2.2.2.2.2 (by rw [h3]; rfl) rfl rfl d (K G p l e s m args below meth c H locs ls cells slots Q X hR hl hL hc hs hE)
  · exact absurd rfl z
theorem r_alen {n t0 : Nat} {ty : FieldType} {x : vp_A} (hd : pm_D E pc 1 .arraylength q) (hh : h.2 ad = some (.inl (ty, x))) (ht : pm_tl[t0]? = some ty) (hta : ty ≠ .array .int) (hn : x.1 = n) (K : pm_V E q L (.int (nI n) :: st) h b F) : pm_V E pc L (.ref ad :: st) h b F := by
  intro G p l e s m args below meth c H locs ls cells slots Q X hR hl hL hc hs hE
  obtain ⟨d, rfl⟩ := hd
  have hA := pm_arr (hR.2.2.2 ad _ hh) hta
  have hP : va_P G.1 vwCl [(pm_ro G ad, .inl (G.2.1 ty, pm_ra G x))] H := pm_one hA.2
  refine va_alen (D := G.1) (cl := vwCl) (ty := ty) X.1 X.2.1 X.2.2.2.2.2.1 hP 0 t0 rfl (by rw [pm_tys, List.getElem?_map, ht]; rfl) (v := nI n) ?_ d (K G p l e s m args below meth c H locs ls cells slots Q X hR hl hL hc hs hE)
  subst hn
  obtain ⟨m9, f9 | f9 | f9 | f9 | f9⟩ := x <;> rfl
def pm_N (E : pm_E) (pc ci N : Nat) (fs : List Value) (q : Nat) : Prop := ∃ (idx : Nat) (C : String) (T : u_T) (ty0 : Nat → FieldType), decode (pm_cc E) pc = .ok (.new idx, 3) ∧ pc + 3 = q ∧ vwCl[ci]? = some (C, T, N) ∧ Cond.classLink E.1.cls idx C ∈ pm_tbl ∧ Cond.instantiable C N ∈ pm_tbl ∧ Cond.initialized C ∈ pm_tbl ∧ (∀ w ∈ u_ws C T N, w ∈ pm_tbl) ∧ (∀ j, j < N → parseFieldDescriptor (T j).2.2.1 = some (ty0 j)) ∧ ∀ j, j < N → defaultValue (ty0 j) = vp_V fs j
theorem pm_V_nul {G : pm_G} {ty : FieldType} : pm_rv G (defaultValue ty) = defaultValue ty := by cases ty <;> rfl
theorem r_new {ci N : Nat} {fs : List Value} {b' : Nat × Nat} (hd : pm_N E pc ci N fs q) (hb1 : b'.1 + 1 = b.1) (hb2 : b'.2 + N = b.2) (K : pm_V E q L (.ref h.1 :: st) (pm_nw h (.inr (ci, fs))) b' F) : pm_V E pc L st h b F := by
  intro G p l e s m args below meth c H locs ls cells slots Q X hR hl hL hc hs hE
  obtain ⟨idx, C, T, ty0, d, rfl, hci, w1, w2, w3, hin, hty, hfs⟩ := hd
  have hts : ∀ w ∈ pm_tbl, w.before args s = true := fun w hw => X.2.2.2.2.2.2.1 w hw args
  have hKn := X.2.2.2.2.2.1.1 ci _ hci
  refine W.newcK X.1 X.2.1 X.2.2.2.1 (hts _ w1) (hts _ w2) (hts _ w3) rfl d (by omega) (by omega) hKn.2.1 hR.2.2.1 fun H1 kC hkC e1 z1 o1 => ?_
  refine K G p l e s m args below meth c H1 locs ls (cells + 1) (slots + N) Q X (hR.nw ⟨hR.2.1, ?_⟩ (by rw [z1, hR.2.2.1]) (by rw [hR.2.2.1]; exact o1)) hl hL (by omega) (by omega) hE
  refine ⟨_, hci, (u_born ty0 hts hin hKn hkC e1 hty).to (fun j hj => ?_)⟩
  have e5 := hfs j hj
  show defaultValue (ty0 j) = (fs.map (pm_rv G)).getD j .null
  have e6 : (fs.map (pm_rv G)).getD j .null = pm_rv G (fs.getD j .null) := by
    rw [List.getD_eq_getElem?_getD, List.getD_eq_getElem?_getD, List.getElem?_map]
    cases fs[j]? <;> rfl
  rw [e6]
  show _ = pm_rv G (vp_V fs j)
  rw [← e5, pm_V_nul]
theorem r_newa {aty : ArrayType} {ty : FieldType} {t0 N : Nat} {n : Int32} {x : vp_A} {b' : Nat × Nat} (hd : pm_D E pc 2 (.newarray aty) q) (hty : newarray.typeOf aty = ty) (ht : pm_tl[t0]? = some ty) (hw : Cond.arrayClass ty ∈ pm_tbl) (hx : ∀ (G : pm_G) (cA : ClassId), vp_cell cA (pm_ra G x) = arrV cA N (fun _ => defaultValue ty)) (hn : ¬ n < 0) (hN : n.toNatClampNeg = N) (hby : N * componentBytes ty ≤ 536870912) (hb1 : b'.1 + 1 = b.1) (hb2 : b'.2 + N = b.2) (hta : ty ≠ .array .int) (hto : ∀ C, ty ≠ .object C) (K : pm_V E q L (.ref h.1 :: st) (pm_nw h (.inl (ty, x))) b' F) : pm_V E pc L (.int n :: st) h b F := by
  intro G p l e s m args below meth c H locs ls cells slots Q X hR hl hL hc hs hE
  obtain ⟨d, rfl⟩ := hd
  subst hty
  refine va_newaK X.1 X.2.1 (X.2.2.2.2.2.2.1 _ hw args) rfl d rfl hn hN hby (by omega) (by omega) hR.2.2.1 fun H1 cA e1 z1 o1 hAr hNm => ?_
  have hra := (X.2.2.2.2.2.1.2 t0 (G.2.1 (newarray.typeOf aty), newarray.typeOf aty) (by rw [pm_tys, List.getElem?_map, ht]; rfl)).2
  have hcA : cA = G.2.1 (newarray.typeOf aty) := by
    have h9 : s.vm.findClass ("[" ++ (newarray.typeOf aty).toString) = some (G.2.1 (newarray.typeOf aty)) := by
      revert hra
      cases aty <;> exact id
    exact Option.some.inj (hNm.symm.trans h9)
  refine K G p l e s m args below meth c H1 locs ls (cells + 1) (slots + N) Q X (hR.nw (Or.inr ⟨hR.2.1, ?_, hta⟩) (by rw [z1, hR.2.2.1]) (by rw [hR.2.2.1]; exact o1)) hl hL (by omega) (by omega) hE
  rw [e1, hx, hcA]
theorem r_newq {C : String} {t0 N : Nat} {n : Int32} {b' : Nat × Nat} {idx : Nat} (hd : pm_D E pc 3 (.anewarray idx) q) (w1 : Cond.classLink E.1.cls idx C ∈ pm_tbl) (w2 : Cond.arrayOver (.object C) ∈ pm_tbl) (ht : pm_tl[t0]? = some (.object C)) (hn : ¬ n < 0) (hN : n.toNatClampNeg = N) (hby : N * 4 ≤ 536870912) (hb1 : b'.1 + 1 = b.1) (hb2 : b'.2 + N = b.2) (K : pm_V E q L (.ref h.1 :: st) (pm_nw h (.inl (.object C, N, .inr (.inr (.inr (.inr (fun _ => none))))))) b' F) : pm_V E pc L (.int n :: st) h b F := by
  intro G p l e s m args below meth c H locs ls cells slots Q X hR hl hL hc hs hE
  obtain ⟨d, rfl⟩ := hd
  subst hN
  refine W.anew X.1 X.2.1 X.2.2.2.1 (X.2.2.2.2.2.2.1 _ w1 args) (X.2.2.2.2.2.2.1 _ w2 args) rfl d rfl hn hby (by omega) (by omega) fun cA kA comp f1 f2 f3 f4 => ?_
  generalize hH1 : H.push ({ cls := cA, slots := Array.replicate n.toNatClampNeg .null, vm := .none } : Cell) = H1
  have z1 : H1.size = H.size + 1 := by rw [← hH1, Array.size_push]
  have e1 : H1[H.size]? = some (arrV cA n.toNatClampNeg (fun _ => .null)) := by rw [← hH1, Array.getElem?_push_size, ← arrV_new]
  have o1 : ∀ q : Nat, q < H.size → H1[q]? = H[q]? := fun q hq => by rw [← hH1, Array.getElem?_push, if_neg (Nat.ne_of_lt hq)]
  obtain ⟨kB, comp', g1, g2, g3, g4⟩ := (X.2.2.2.2.2.1.2 t0 (G.2.1 (.object C), .object C) (by rw [pm_tys, List.getElem?_map, ht]; rfl)).2
  have hcA : cA = G.2.1 (.object C) := Option.some.inj (f1.symm.trans g4)
  have K' := K G p l e s m args below meth c H1 locs ls (cells + 1) (slots + n.toNatClampNeg) Q X (hR.nw (Or.inr ⟨hR.2.1, (by rw [← hR.2.2.1, e1, hcA]; rfl), (fun z => by cases z)⟩) z1 o1) hl hL (by omega) (by omega) hE
  rw [List.map_cons] at K'
  have e7 : pm_rv G (.ref h.1) = .ref H.size := by show Value.ref (pm_ro G h.1) = _; rw [hR.2.2.1]
  rw [e7] at K'
  exact K'
theorem pm_recv {G : pm_G} {ci : Nat} {fs : List Value} {s : State} {H : Heap} {r : vw_C} (hK : pm_K G s) (hR : pm_R G h H) (hh : h.2 ad = some (.inr (ci, fs))) (hci : vwCl[ci]? = some r) : ∃ cell : Cell, H[pm_ro G ad]? = some cell ∧ cell.vm.isStatics = false ∧ s.vm.findClass r.1 = some cell.cls := by
  obtain ⟨-, q', h1, cell, g1, g2, g3, -⟩ := hR.2.2.2 ad _ hh
  exact ⟨cell, g1, by rw [g3]; rfl, by rw [g2]; exact (hK.1.1 ci r hci).2.1⟩
theorem r_instY {idx ci : Nat} {nm : String} {r : vw_C} {fs : List Value} (hd : pm_D E pc 3 (.instanceof idx) q) (w1 : Cond.classLink E.1.cls idx nm ∈ pm_tbl) (hh : h.2 ad = some (.inr (ci, fs))) (hci : vwCl[ci]? = some r) (hrc : r.1 = nm ∨ Cond.castable r.1 nm ∈ pm_tbl) (K : pm_V E q L (.int 1 :: st) h b F) : pm_V E pc L (.ref ad :: st) h b F := by
  intro G p l e s m args below meth c H locs ls cells slots Q X hR hl hL hc hs hE
  obtain ⟨d, rfl⟩ := hd
  rcases hrc with z | z
  · subst z
    exact va_instS X.1 X.2.1 X.2.2.2.1 (X.2.2.2.2.2.2.1 _ w1 args) (X.2.2.2.2.2.1.1 ci r hci).2 (pm_recv X.2.2.2.2.2 hR hh hci) d (K G p l e s m args below meth c H locs ls cells slots Q X hR hl hL hc hs hE)
  · exact va_instY X.1 X.2.1 X.2.2.2.1 (X.2.2.2.2.2.2.1 _ w1 args) (X.2.2.2.2.2.2.1 _ z #[]) (pm_recv X.2.2.2.2.2 hR hh hci) d (K G p l e s m args below meth c H locs ls cells slots Q X hR hl hL hc hs hE)
theorem r_instNo {idx ci : Nat} {nm : String} {r : vw_C} {fs : List Value} (hd : pm_D E pc 3 (.instanceof idx) q) (w1 : Cond.classLink E.1.cls idx nm ∈ pm_tbl) (hh : h.2 ad = some (.inr (ci, fs))) (hci : vwCl[ci]? = some r) (hrc : (r.1, nm) ∈ pm_no) (K : pm_V E q L (.int 0 :: st) h b F) : pm_V E pc L (.ref ad :: st) h b F := by
  intro G p l e s m args below meth c H locs ls cells slots Q X hR hl hL hc hs hE
  obtain ⟨d, rfl⟩ := hd
  exact va_instNo X.1 X.2.1 X.2.2.2.1 (X.2.2.2.2.2.2.1 _ w1 args) (X.2.2.2.2.2.2.2.1 _ hrc) (pm_recv X.2.2.2.2.2 hR hh hci) d (K G p l e s m args below meth c H locs ls cells slots Q X hR hl hL hc hs hE)
theorem r_cast {idx ci : Nat} {nm : String} {r : vw_C} {fs : List Value} (hd : pm_D E pc 3 (.checkcast idx) q) (w1 : Cond.classLink E.1.cls idx nm ∈ pm_tbl) (hh : h.2 ad = some (.inr (ci, fs))) (hci : vwCl[ci]? = some r) (hrc : r.1 = nm ∨ Cond.castable r.1 nm ∈ pm_tbl) (K : pm_V E q L (.ref ad :: st) h b F) : pm_V E pc L (.ref ad :: st) h b F := by
  intro G p l e s m args below meth c H locs ls cells slots Q X hR hl hL hc hs hE
  obtain ⟨d, rfl⟩ := hd
  rcases hrc with z | z
  · subst z
    exact va_castS X.1 X.2.1 X.2.2.2.1 (X.2.2.2.2.2.2.1 _ w1 args) (X.2.2.2.2.2.1.1 ci r hci).2 (pm_recv X.2.2.2.2.2 hR hh hci) d (K G p l e s m args below meth c H locs ls cells slots Q X hR hl hL hc hs hE)
  · exact va_castY X.1 X.2.1 X.2.2.2.1 (X.2.2.2.2.2.2.1 _ w1 args) (X.2.2.2.2.2.2.1 _ z #[]) (pm_recv X.2.2.2.2.2 hR hh hci) d (K G p l e s m args below meth c H locs ls cells slots Q X hR hl hL hc hs hE)
theorem r_objInit {idx : Nat} (hd : pm_D E pc 3 (.invokespecial idx) q) (w1 : Cond.methodLink E.1.cls idx Lib.objectInit ∈ pm_tbl) (w2 : Cond.instanceMethod Lib.objectInit ∈ pm_tbl) (w3 : Cond.code Lib.objectInit ⟨#[0xb1]⟩ 1 none ∈ pm_tbl) (hf : 1 ≤ (pm_rm E).frames) (hlo : (st.map fun v => v.category).sum + 12 ≤ (pm_rm E).locals) (K : pm_V E q L st h b F) : pm_V E pc L (.ref ad :: st) h b F := by
  intro G p l e s m args below meth c H locs ls cells slots Q X hR hl hL hc hs hE
  obtain ⟨d, rfl⟩ := hd
  refine W.objInit X.1 X.2.1 X.2.2.2.1 (X.2.2.2.2.2.2.1 _ w1 args) (X.2.2.2.2.2.2.1 _ w2 args) (X.2.2.2.2.2.2.1 _ w3 args) rfl (by rw [X.2.2.1]; exact hL.1) rfl d hf ?_ (K G p l e s m args below meth c H locs ls cells slots Q X hR hl hL hc hs hE)
  show 2 * 0 + ((st.map (pm_rv G)).map fun v => v.category).sum + 12 ≤ _
  rw [pm_rv_cats]
  omega
/-- what fits of a callee -/
def pm_fit (E E' : pm_E) (n : Nat) : Prop := (pm_rm E').frames + 1 ≤ (pm_rm E).frames ∧ 8 + (pm_nL E' + 11) + (pm_rm E').locals ≤ (pm_rm E).locals ∧ Cond.code E'.1 (pm_cc E') (pm_nL E') (pm_rt E') ∈ pm_tbl ∧ Cond.initialized E'.1.cls ∈ pm_tbl ∧ (E'.1.cls ≠ "java/lang/invoke/MethodHandle" ∧ E'.1.cls ≠ "java/lang/invoke/VarHandle") ∧ (parseMethodDescriptor E'.1.desc).map (fun d => d.parameters.length) = some n
theorem pm_blind {G : pm_G} {av : List Value} : FrameBlind (va_Pc (av.map (pm_rv G)) (fun U => pm_K G U ∧ pm_R G h U.heap)) := by
  intro a9 U g mk q9
  obtain ⟨e1, e2, e3⟩ := q9
  exact ⟨e1, e2.warm (U := U.calling g mk a9) (State.WarmedH.refl U), e3⟩
/-- behind any call -/
theorem pm_after {G : pm_G} {p : Program} {l : Launch} {e : Env} {s : State} {m : MethodId} {args : Array Value} {below : List Frame} {meth : Method} {c : Code} {H : Heap} {locs : List Loc} {ls : Array Slot} {cells slots mc ms : Nat} {Q : State → Prop} {st0 : List Value} {P : Option Value → pm_H → Prop} {b' : Nat × Nat}
    (X : pm_X E G p s m meth c) (hl : ∀ q ∈ locs, G.2.2.2.2 ≤ q.base) (hL : pm_L G L ls (pm_nL E)) (hE : pm_End E G p l e s m args below meth c Q F) (hc : cells + mc + b'.1 ≤ (pm_rm E).cells) (hs : slots + ms + b'.2 ≤ (pm_rm E).slots)
    (hr : va_Run p l e (pm_rm E) s m args below meth c H locs cells slots mc ms (F0 m pc ls st0) (st.map (pm_rv G)) (fun _ o t => ∃ (v : Option Value) (h1 : pm_H), o = .returned (v.map (pm_rv G)) ∧ P v h1 ∧ pm_R G h1 t.heap) (fun q => G.2.2.2.2 ≤ q))
    (K : ∀ v h1, P v h1 → pm_V E (pc + 3) L (v.toList ++ st) h1 b' F) : W p l e (pm_rm E) s m args below meth c H locs cells slots Q (F0 m pc ls st0) := by
  intro T hT XX
  obtain ⟨v, st₀, t, T', L9, h0, X', hL9, e1, e2, ⟨v2, h1, hv, hp, hR1⟩, go⟩ := hr T hT XX
  cases hv
  obtain ⟨t2, a1, b1⟩ := K v2 h1 hp G p l e s m args below meth c T'.heap (locs ++ L9) ls (cells + mc) (slots + ms) Q X (by rw [e1]; exact hR1) (fun q hq => by
      rcases List.mem_append.mp hq with z | z
      · exact hl q z
      · exact hL9 q z) hL (by omega) (by omega) hE T' rfl X'
  refine ⟨t2, go t2 ?_, b1⟩
  have e9 : (v2.toList ++ st).map (pm_rv G) = (v2.map (pm_rv G)).toList ++ st.map (pm_rv G) := by cases v2 <;> simp
  rw [← e9]
  exact a1
def pm_kV (E : pm_E) (pc : Nat) (E' : pm_E) (C : String) (n q : Nat) : Prop := ∃ idx : Nat, decode (pm_cc E) pc = .ok (.invokevirtual idx, 3) ∧ pc + 3 = q ∧ pm_fit E E' n ∧ Cond.instanceMethod E'.1 ∈ pm_tbl ∧
  ((Cond.methodLink E.1.cls idx E'.1 ∈ pm_tbl ∧ Cond.selects C E'.1 E'.1 ∈ pm_tbl) ∨ (∃ host, Cond.methodLinkNest E.1.cls idx E'.1 host ∈ pm_tbl ∧ Cond.selects C E'.1 E'.1 ∈ pm_tbl) ∨
   (∃ (x : MethodName) (owner : String) (b0 : ByteArray) (m0 : Nat) (r0 : Option FieldType), Cond.methodLink E.1.cls idx x ∈ pm_tbl ∧ Cond.sameMethod x.cls owner x.name x.desc ∈ pm_tbl ∧ Cond.selects C x E'.1 ∈ pm_tbl ∧ (owner ≠ "java/lang/invoke/MethodHandle" ∧ owner ≠ "java/lang/invoke/VarHandle") ∧ Cond.instanceMethod ⟨owner, x.name, x.desc⟩ ∈ pm_tbl ∧ Cond.code ⟨owner, x.name, x.desc⟩ b0 m0 r0 ∈ pm_tbl ∧ (parseMethodDescriptor x.desc).map (fun d => d.parameters.length) = some n))
theorem pm_len {d : String} {n : Nat} (h2 : (parseMethodDescriptor d).map (fun d => d.parameters.length) = some n) : ∀ sig, parseMethodDescriptor d = some sig → n = sig.parameters.length := fun sig hsig => by rw [hsig] at h2; exact (Option.some.inj h2).symm
theorem r_callVa {E' : pm_E} {C : String} {n ci : Nat} {r : vw_C} {fs As st0 : List Value} {P : Option Value → pm_H → Prop} {b' : Nat × Nat} (hd : pm_kV E pc E' C n q) (hci : vwCl[ci]? = some r) (hrc : r.1 = C) (hh : h.2 ad = some (.inr (ci, fs))) (hn : As.length = n) (hst : st0 = As.reverse ++ .ref ad :: st) (hcat : (st.map fun v => v.category).sum ≤ 8) (hb1 : b'.1 + (pm_rm E').cells ≤ b.1) (hb2 : b'.2 + (pm_rm E').slots ≤ b.2) (hC : pm_Cl E' (.ref ad :: As) h P) (K : ∀ v h1, P v h1 → pm_V E q L (v.toList ++ st) h1 b' F) : pm_V E pc L st0 h b F := by
  intro G p l e s m args below meth c H locs ls cells slots Q X hR hl hL hc hs hE
  obtain ⟨idx, d, rfl, ⟨g1, g2, g3, g4, g5, g6⟩, w2, hk⟩ := hd
  have hts : ∀ w ∈ pm_tbl, ∀ a9, w.before a9 s = true := X.2.2.2.2.2.2.1
  have hM := hC l G
  have hws : ∀ w ∈ [Cond.code E'.1 (pm_cc E') (pm_nL E') (pm_rt E')], ∀ (a' : Array Value) (U : State), s.WarmedH U.vm → w.before a' U = true := fun w hw a' U hW => (X.2.2.2.2.2.warm hW).2.1 w (by rw [List.mem_singleton.mp hw]; exact g3) a'
  subst hrc
  have hPre : PreV s H r.1 (pm_ro G ad) (va_Pc ((Value.ref ad :: As).map (pm_rv G)) (fun U => pm_K G U ∧ pm_R G h U.heap)) (As.map (pm_rv G)) := ⟨pm_blind, pm_recv X.2.2.2.2.2 hR hh hci, fun U hU hW => ⟨rfl, X.2.2.2.2.2.warm hW, by rw [hU]; exact hR⟩⟩
  have hstk : (F0 m pc ls (st0.map (pm_rv G))).stack = (As.map (pm_rv G)).reverse ++ .ref (pm_ro G ad) :: st.map (pm_rv G) := by
    show st0.map (pm_rv G) = _
    rw [hst, List.map_append, List.map_reverse]
    rfl
  have hcat' : 2 * (F0 m pc ls (st0.map (pm_rv G))).monitorRoom + ((st.map (pm_rv G)).map fun v => v.category).sum ≤ 8 := by rw [pm_rv_cats]; exact lv_room hcat
  have S : CallFix p m c (pm_cc E) (pm_nL E) s args pm_tbl E.1.cls := ⟨X.1, X.2.1, X.2.2.1, X.2.2.2.1, fun w hw => hts w hw args⟩
  have hf : cells + (pm_rm E').cells ≤ (pm_rm E).cells ∧ slots + (pm_rm E').slots ≤ (pm_rm E).slots := ⟨by omega, by omega⟩
  rcases hk with ⟨w1, w3⟩ | ⟨host, w1, w3⟩ | ⟨x, owner, b0, m0, r0, w1, w3, w4, w5, w6, w7, w8⟩
  · exact pm_after X hl hL hE (by omega) (by omega) (va_runV S hM ⟨⟨rfl, rfl, g1, g2, hws, List.mem_singleton.mpr rfl, hts _ g3 args, hts _ g4 args, g5, pm_len g6, hts _ w1 args⟩, hts _ w2 args, hts _ w3 args⟩ hPre rfl (by rw [List.length_map]; exact hn) hL.1 hstk hcat' d hf) K
  · exact pm_after X hl hL hE (by omega) (by omega) (va_runVN S hM ⟨⟨⟨rfl, rfl, g1, g2, hws, List.mem_singleton.mpr rfl⟩, hts _ g3 args, hts _ g4 args, g5, pm_len g6, hts _ w1 args⟩, hts _ w2 args, hts _ w3 args⟩ hPre rfl (by rw [List.length_map]; exact hn) hL.1 hstk hcat' d hf) K
  · exact pm_after X hl hL hE (by omega) (by omega) (va_runU S hM ⟨⟨rfl, rfl, g1, g2, hws, List.mem_singleton.mpr rfl⟩, hts _ g3 args, hts _ g4 args, w5, pm_len w8, hts _ w1 args, hts _ w3 args, va_Decl.of (hts _ w6 args) (hts _ w7 args), hts _ w4 args, hts _ w2 args⟩ hPre rfl (by rw [List.length_map]; exact hn) hL.1 hstk hcat' d hf) K
def pm_kS (E : pm_E) (pc : Nat) (E' : pm_E) (n q : Nat) : Prop := ∃ idx : Nat, decode (pm_cc E) pc = .ok (.invokestatic idx, 3) ∧ pc + 3 = q ∧ pm_fit E E' n ∧ Cond.static E'.1 ∈ pm_tbl ∧ (Cond.methodLink E.1.cls idx E'.1 ∈ pm_tbl ∨ ∃ host, Cond.methodLinkNest E.1.cls idx E'.1 host ∈ pm_tbl)
theorem r_callSa {E' : pm_E} {n : Nat} {As st0 : List Value} {P : Option Value → pm_H → Prop} {b' : Nat × Nat} (hd : pm_kS E pc E' n q) (hn : As.length = n) (hst : st0 = As.reverse ++ st) (hcat : (st.map fun v => v.category).sum ≤ 8) (hb1 : b'.1 + (pm_rm E').cells ≤ b.1) (hb2 : b'.2 + (pm_rm E').slots ≤ b.2) (hC : pm_Cl E' As h P) (K : ∀ v h1, P v h1 → pm_V E q L (v.toList ++ st) h1 b' F) : pm_V E pc L st0 h b F := by
  intro G p l e s m args below meth c H locs ls cells slots Q X hR hl hL hc hs hE
  obtain ⟨idx, d, rfl, ⟨g1, g2, g3, g4, g5, g6⟩, w2, hk⟩ := hd
  have hts : ∀ w ∈ pm_tbl, ∀ a9, w.before a9 s = true := X.2.2.2.2.2.2.1
  have hM := hC l G
  have hws : ∀ w ∈ [Cond.code E'.1 (pm_cc E') (pm_nL E') (pm_rt E')], ∀ (a' : Array Value) (U : State), s.WarmedH U.vm → w.before a' U = true := fun w hw a' U hW => (X.2.2.2.2.2.warm hW).2.1 w (by rw [List.mem_singleton.mp hw]; exact g3) a'
  have hPre : PreS s H (va_Pc (As.map (pm_rv G)) (fun U => pm_K G U ∧ pm_R G h U.heap)) (As.map (pm_rv G)) := ⟨pm_blind, fun U hU hW => ⟨rfl, X.2.2.2.2.2.warm hW, by rw [hU]; exact hR⟩⟩
  have hstk : (F0 m pc ls (st0.map (pm_rv G))).stack = (As.map (pm_rv G)).reverse ++ st.map (pm_rv G) := by
    show st0.map (pm_rv G) = _
    rw [hst, List.map_append, List.map_reverse]
  have hcat' : 2 * (F0 m pc ls (st0.map (pm_rv G))).monitorRoom + ((st.map (pm_rv G)).map fun v => v.category).sum ≤ 8 := by rw [pm_rv_cats]; exact lv_room hcat
  have S : CallFix p m c (pm_cc E) (pm_nL E) s args pm_tbl E.1.cls := ⟨X.1, X.2.1, X.2.2.1, X.2.2.2.1, fun w hw => hts w hw args⟩
  have hf : cells + (pm_rm E').cells ≤ (pm_rm E).cells ∧ slots + (pm_rm E').slots ≤ (pm_rm E).slots := ⟨by omega, by omega⟩
  rcases hk with w1 | ⟨host, w1⟩
  · exact pm_after X hl hL hE (by omega) (by omega) (va_runS S hM ⟨⟨rfl, rfl, g1, g2, hws, List.mem_singleton.mpr rfl, hts _ g3 args, hts _ g4 args, g5, pm_len g6, hts _ w1 args⟩, hts _ w2 args⟩ hPre rfl (by rw [List.length_map]; exact hn) hL.1 hstk hcat' d hf) K
  · exact pm_after X hl hL hE (by omega) (by omega) (va_runSN S hM ⟨⟨⟨rfl, rfl, g1, g2, hws, List.mem_singleton.mpr rfl⟩, hts _ g3 args, hts _ g4 args, g5, pm_len g6, hts _ w1 args⟩, hts _ w2 args, trivial⟩ hPre rfl (by rw [List.length_map]; exact hn) hL.1 hstk hcat' d hf) K
def pm_kI (E : pm_E) (pc : Nat) (E' : pm_E) (n q : Nat) : Prop := ∃ idx : Nat, decode (pm_cc E) pc = .ok (.invokespecial idx, 3) ∧ pc + 3 = q ∧ pm_fit E E' n ∧ pm_rt E' = none ∧ E'.1.name = "<init>" ∧ Cond.instanceMethod E'.1 ∈ pm_tbl ∧ (Cond.methodLink E.1.cls idx E'.1 ∈ pm_tbl ∨ ∃ host, Cond.methodLinkNest E.1.cls idx E'.1 host ∈ pm_tbl)
theorem r_callIa {E' : pm_E} {n : Nat} {As st0 : List Value} {P : Option Value → pm_H → Prop} {b' : Nat × Nat} (hd : pm_kI E pc E' n q) (hn : As.length = n) (hst : st0 = As.reverse ++ .ref ad :: st) (hcat : (st.map fun v => v.category).sum ≤ 8) (hb1 : b'.1 + (pm_rm E').cells ≤ b.1) (hb2 : b'.2 + (pm_rm E').slots ≤ b.2) (hC : pm_Cl E' (.ref ad :: As) h P) (K : ∀ v h1, P v h1 → pm_V E q L (v.toList ++ st) h1 b' F) : pm_V E pc L st0 h b F := by
  intro G p l e s m args below meth c H locs ls cells slots Q X hR hl hL hc hs hE
  obtain ⟨idx, d, rfl, ⟨g1, g2, g3, g4, g5, g6⟩, hrt, hnm, w2, hk⟩ := hd
  have hts : ∀ w ∈ pm_tbl, ∀ a9, w.before a9 s = true := X.2.2.2.2.2.2.1
  have hM := hC l G
  rw [hrt] at hM g3
  have hws : ∀ w ∈ [Cond.code E'.1 (pm_cc E') (pm_nL E') none], ∀ (a' : Array Value) (U : State), s.WarmedH U.vm → w.before a' U = true := fun w hw a' U hW => (X.2.2.2.2.2.warm hW).2.1 w (by rw [List.mem_singleton.mp hw]; exact g3) a'
  have hPre : PreS s H (va_Pc ((Value.ref ad :: As).map (pm_rv G)) (fun U => pm_K G U ∧ pm_R G h U.heap)) (.ref (pm_ro G ad) :: As.map (pm_rv G)) := ⟨pm_blind, fun U hU hW => ⟨rfl, X.2.2.2.2.2.warm hW, by rw [hU]; exact hR⟩⟩
  have hstk : (F0 m pc ls (st0.map (pm_rv G))).stack = (As.map (pm_rv G)).reverse ++ .ref (pm_ro G ad) :: st.map (pm_rv G) := by
    show st0.map (pm_rv G) = _
    rw [hst, List.map_append, List.map_reverse]
    rfl
  have hcat' : 2 * (F0 m pc ls (st0.map (pm_rv G))).monitorRoom + ((st.map (pm_rv G)).map fun v => v.category).sum ≤ 8 := by rw [pm_rv_cats]; exact lv_room hcat
  have S : CallFix p m c (pm_cc E) (pm_nL E) s args pm_tbl E.1.cls := ⟨X.1, X.2.1, X.2.2.1, X.2.2.2.1, fun w hw => hts w hw args⟩
  have hf : cells + (pm_rm E').cells ≤ (pm_rm E).cells ∧ slots + (pm_rm E').slots ≤ (pm_rm E).slots := ⟨by omega, by omega⟩
  rcases hk with w1 | ⟨host, w1⟩
  · exact pm_after X hl hL hE (by omega) (by omega) (va_runI S hM ⟨⟨rfl, rfl, g1, g2, hws, List.mem_singleton.mpr rfl, hts _ g3 args, hts _ g4 args, g5, pm_len g6, hts _ w1 args⟩, hnm, hts _ w2 args⟩ hPre rfl (by rw [List.length_map]; exact hn) hL.1 hstk hcat' d hf) K
  · exact pm_after X hl hL hE (by omega) (by omega) (va_runIN S hM ⟨⟨⟨rfl, rfl, g1, g2, hws, List.mem_singleton.mpr rfl⟩, hts _ g3 args, hts _ g4 args, g5, pm_len g6, hts _ w1 args⟩, hnm, hts _ w2 args⟩ hPre rfl (by rw [List.length_map]; exact hn) hL.1 hstk hcat' d hf) K
/-- calls of methods that make nothing -/
theorem r_callV {E' : pm_E} {C : String} {n ci : Nat} {r : vw_C} {fs As st0 : List Value} {P : Option Value → pm_H → Prop} (hd : pm_kV E pc E' C n q) (hci : vwCl[ci]? = some r) (hrc : r.1 = C) (hh : h.2 ad = some (.inr (ci, fs))) (hn : As.length = n) (hst : st0 = As.reverse ++ .ref ad :: st) (hcat : (st.map fun v => v.category).sum ≤ 8) (h0 : (pm_rm E').cells = 0 ∧ (pm_rm E').slots = 0) (hC : pm_Cl E' (.ref ad :: As) h P) (K : ∀ v h1, P v h1 → pm_V E q L (v.toList ++ st) h1 b F) : pm_V E pc L st0 h b F :=
  r_callVa (b' := b) hd hci hrc hh hn hst hcat (by rw [h0.1]; omega) (by rw [h0.2]; omega) hC K
theorem r_callS {E' : pm_E} {n : Nat} {As st0 : List Value} {P : Option Value → pm_H → Prop} (hd : pm_kS E pc E' n q) (hn : As.length = n) (hst : st0 = As.reverse ++ st) (hcat : (st.map fun v => v.category).sum ≤ 8) (h0 : (pm_rm E').cells = 0 ∧ (pm_rm E').slots = 0) (hC : pm_Cl E' As h P) (K : ∀ v h1, P v h1 → pm_V E q L (v.toList ++ st) h1 b F) : pm_V E pc L st0 h b F :=
  r_callSa (b' := b) hd hn hst hcat (by rw [h0.1]; omega) (by rw [h0.2]; omega) hC K
theorem r_callI {E' : pm_E} {n : Nat} {As st0 : List Value} {P : Option Value → pm_H → Prop} (hd : pm_kI E pc E' n q) (hn : As.length = n) (hst : st0 = As.reverse ++ .ref ad :: st) (hcat : (st.map fun v => v.category).sum ≤ 8) (h0 : (pm_rm E').cells = 0 ∧ (pm_rm E').slots = 0) (hC : pm_Cl E' (.ref ad :: As) h P) (K : ∀ v h1, P v h1 → pm_V E q L (v.toList ++ st) h1 b F) : pm_V E pc L st0 h b F :=
  r_callIa (b' := b) hd hn hst hcat (by rw [h0.1]; omega) (by rw [h0.2]; omega) hC K
theorem r_copyi {a0 n0 n1 sp dp k t0 : Nat} {idx : Nat} {ty : FieldType} {f g : Nat → Int32} {isp idp ik : Int32} (hd : pm_D E pc 3 (.invokestatic idx) q) (w1 : Cond.methodLink E.1.cls idx arraycopyName ∈ pm_tbl) (w2 : Cond.native arraycopyName ∈ pm_tbl) (w3 : Cond.static arraycopyName ∈ pm_tbl) (w4 : Cond.initialized "java/lang/System" ∈ pm_tbl) (ht : pm_tl[t0]? = some ty) (hprim : refKind ty = false) (hh0 : h.2 a0 = some (.inl (ty, n0, .inl f))) (hh1 : h.2 ad = some (.inl (ty, n1, .inl g))) (hx1 : ¬ isp < 0 ∧ isp.toNatClampNeg = sp) (hx2 : ¬ idp < 0 ∧ idp.toNatClampNeg = dp) (hx3 : ¬ ik < 0 ∧ ik.toNatClampNeg = k) (h4 : sp + k ≤ n0) (h5 : dp + k ≤ n1) (hfit : ∀ i, i < k → fits ty (.int (f (sp + i))) = true) (hfr : 1 ≤ (pm_rm E).frames) (hlo : (st.map fun v => v.category).sum + (nativeFrameWords "java/lang/System" "arraycopy" 5 + 11) ≤ (pm_rm E).locals) (K : pm_V E q L st (pm_up h ad (.inl (ty, n1, .inl (va_cpy f g sp dp k)))) b F) : pm_V E pc L (.int ik :: .int idp :: .ref ad :: .int isp :: .ref a0 :: st) h b F := by
  intro G p l e s m args below meth c H locs ls cells slots Q X hR hl hL hc hs hE
  obtain ⟨d, rfl⟩ := hd
  obtain ⟨hi1, rfl⟩ := hx1
  obtain ⟨hi2, rfl⟩ := hx2
  obtain ⟨hi3, rfl⟩ := hx3
  have hta : ty ≠ .array .int := fun z => by subst z; simp [refKind] at hprim
  have hA0 := pm_arr (hR.2.2.2 a0 _ hh0) hta
  have hA1 := pm_arr (hR.2.2.2 ad _ hh1) hta
  have nn : ∀ z : Int32, ¬ z < 0 → z.toInt = (z.toNatClampNeg : Int) := by
    intro z hz
    have hz0 : (0 : Int) ≤ z.toInt := by
      have := Int32.not_lt.mp hz
      simpa using Int32.le_iff_toInt_le.mp this
    show z.toInt = ((z.toInt.toNat : Nat) : Int)
    omega
  intro T hT XX
  have hc0 : H[pm_ro G a0]? = some (vp_cell (G.2.1 ty) (n0, .inl f)) := hA0.2
  have hc1 : H[pm_ro G ad]? = some (vp_cell (G.2.1 ty) (n1, .inl g)) := hA1.2
  have harr := (X.2.2.2.2.2.1.2 t0 (G.2.1 ty, ty) (by rw [pm_tys, List.getElem?_map, ht]; rfl)).1
  obtain ⟨-, k0, hk0, cm0, hkk0⟩ := harr n0 (fun j => .int (f j))
  obtain ⟨-, k1, hk1, cm1, hkk1⟩ := harr n1 (fun j => .int (g j))
  obtain ⟨vm', X', step⟩ := XX.arraycopy X.1 X.2.2.2.1 (X.2.2.2.2.2.2.1 _ w1 args) (X.2.2.2.2.2.2.1 _ w2 args) (X.2.2.2.2.2.2.1 _ w3 args) (X.2.2.2.2.2.2.1 _ w4 args) (src := pm_ro G a0) (dst := pm_ro G ad) (cs := vp_cell (G.2.1 ty) (n0, .inl f)) (cd := vp_cell (G.2.1 ty) (n1, .inl g)) (srcPos := isp) (destPos := idp) (n := ik) (by rw [hT]; exact hc0) (by rw [hT]; exact hc1)
    (fun _ h => by cases h) (fun _ h => by cases h) (fun h => by cases h) (fun h => by cases h) hk0 hk1 hkk0 hkk1 (by simp [hprim]) hi1 hi2 hi3
    (by rw [nn isp hi1, nn ik hi3]; show ¬ _ > ((arrV (G.2.1 ty) n0 (fun j => .int (f j))).slots.size : Int); rw [arrV_size]; omega)
    (by rw [nn idp hi2, nn ik hi3]; show ¬ _ > ((arrV (G.2.1 ty) n1 (fun j => .int (g j))).slots.size : Int); rw [arrV_size]; omega)
    (fun vm₁ _ i hi => by
      have e : (vp_cell (G.2.1 ty) (n0, .inl f)).slots.getD (isp.toNatClampNeg + i) .null = .int (f (isp.toNatClampNeg + i)) := by
        show (arrV (G.2.1 ty) n0 (fun j => .int (f j))).slots.getD _ _ = _
        rw [Array.getD_eq_getD_getElem?, arrV_read _ _ (by omega)]
        rfl
      refine ⟨?_, ?_⟩
      · rw [e]
        exact hfit i hi
      · rw [e]
        exact trivial)
    (g := F0 m pc ls (.int ik :: .int idp :: .ref (pm_ro G ad) :: .int isp :: .ref (pm_ro G a0) :: st.map (pm_rv G))) rfl (by rw [X.2.2.1]; exact hL.1) (rest := st.map (pm_rv G)) rfl (by rw [X.2.1]; exact d) hfr (by show 2 * 0 + _ + _ ≤ _; rw [pm_rv_cats]; omega)
  have e1 : copied (vp_cell (G.2.1 ty) (n0, .inl f)) (vp_cell (G.2.1 ty) (n1, .inl g)) isp idp ik = vp_cell (G.2.1 ty) (n1, .inl (va_cpy f g isp.toNatClampNeg idp.toNatClampNeg ik.toNatClampNeg)) := va_copied (fun z => .int z) (G.2.1 ty) (G.2.1 ty) f g h4
  rw [e1] at X' step
  have hlz : pm_ro G ad < H.size := (Array.getElem?_eq_some_iff.mp hc1).1
  have hheap : ((T.setVm vm').setCell (pm_ro G ad) (vp_cell (G.2.1 ty) (n1, .inl (va_cpy f g isp.toNatClampNeg idp.toNatClampNeg ik.toNatClampNeg)))).heap = H.setIfInBounds (pm_ro G ad) (vp_cell (G.2.1 ty) (n1, .inl (va_cpy f g isp.toNatClampNeg idp.toNatClampNeg ik.toNatClampNeg))) := by rw [← hT]; rfl
  obtain ⟨t, a1, b1⟩ := K G p l e s m args below meth c _ _ ls cells slots Q X (hR.up (c := .inl (ty, n1, .inl (va_cpy f g isp.toNatClampNeg idp.toNatClampNeg ik.toNatClampNeg))) (Or.inr ⟨hA1.1, (show (H.setIfInBounds (pm_ro G ad) (vp_cell (G.2.1 ty) (n1, .inl (va_cpy f g isp.toNatClampNeg idp.toNatClampNeg ik.toNatClampNeg))))[pm_ro G ad]? = some _ by simp [Array.getElem?_setIfInBounds, hlz]; rfl), hta⟩) (by simp) (fun q hq => by simp [Array.getElem?_setIfInBounds, Ne.symm hq])) (fun q hq => by
      rcases List.mem_append.mp hq with z | z
      · exact hl q z
      · obtain ⟨z9, -, hz⟩ := List.mem_map.mp z
        rw [← hz]
        exact pm_ro_pos hA1.1) hL hc hs hE _ hheap X'
  exact ⟨t, step t a1, b1⟩
theorem r_copyl {a0 n0 n1 sp dp k t0 : Nat} {idx : Nat} {ty : FieldType} {f g : Nat → Int64} {isp idp ik : Int32} (hd : pm_D E pc 3 (.invokestatic idx) q) (w1 : Cond.methodLink E.1.cls idx arraycopyName ∈ pm_tbl) (w2 : Cond.native arraycopyName ∈ pm_tbl) (w3 : Cond.static arraycopyName ∈ pm_tbl) (w4 : Cond.initialized "java/lang/System" ∈ pm_tbl) (ht : pm_tl[t0]? = some ty) (hprim : refKind ty = false) (hh0 : h.2 a0 = some (.inl (ty, n0, .inr (.inl f)))) (hh1 : h.2 ad = some (.inl (ty, n1, .inr (.inl g)))) (hx1 : ¬ isp < 0 ∧ isp.toNatClampNeg = sp) (hx2 : ¬ idp < 0 ∧ idp.toNatClampNeg = dp) (hx3 : ¬ ik < 0 ∧ ik.toNatClampNeg = k) (h4 : sp + k ≤ n0) (h5 : dp + k ≤ n1) (hfit : ∀ i, i < k → fits ty (.long (f (sp + i))) = true) (hfr : 1 ≤ (pm_rm E).frames) (hlo : (st.map fun v => v.category).sum + (nativeFrameWords "java/lang/System" "arraycopy" 5 + 11) ≤ (pm_rm E).locals) (K : pm_V E q L st (pm_up h ad (.inl (ty, n1, .inr (.inl (va_cpy f g sp dp k))))) b F) : pm_V E pc L (.int ik :: .int idp :: .ref ad :: .int isp :: .ref a0 :: st) h b F := by
  intro G p l e s m args below meth c H locs ls cells slots Q X hR hl hL hc hs hE
  obtain ⟨d, rfl⟩ := hd
  obtain ⟨hi1, rfl⟩ := hx1
  obtain ⟨hi2, rfl⟩ := hx2
  obtain ⟨hi3, rfl⟩ := hx3
  have hta : ty ≠ .array .int := fun z => by subst z; simp [refKind] at hprim
  have hA0 := pm_arr (hR.2.2.2 a0 _ hh0) hta
  have hA1 := pm_arr (hR.2.2.2 ad _ hh1) hta
  have nn : ∀ z : Int32, ¬ z < 0 → z.toInt = (z.toNatClampNeg : Int) := by
    intro z hz
    have hz0 : (0 : Int) ≤ z.toInt := by
      have := Int32.not_lt.mp hz
      simpa using Int32.le_iff_toInt_le.mp this
    show z.toInt = ((z.toInt.toNat : Nat) : Int)
    omega
  intro T hT XX
  have hc0 : H[pm_ro G a0]? = some (vp_cell (G.2.1 ty) (n0, .inr (.inl f))) := hA0.2
  have hc1 : H[pm_ro G ad]? = some (vp_cell (G.2.1 ty) (n1, .inr (.inl g))) := hA1.2
  have harr := (X.2.2.2.2.2.1.2 t0 (G.2.1 ty, ty) (by rw [pm_tys, List.getElem?_map, ht]; rfl)).1
  obtain ⟨-, k0, hk0, cm0, hkk0⟩ := harr n0 (fun j => .long (f j))
  obtain ⟨-, k1, hk1, cm1, hkk1⟩ := harr n1 (fun j => .long (g j))
  obtain ⟨vm', X', step⟩ := XX.arraycopy X.1 X.2.2.2.1 (X.2.2.2.2.2.2.1 _ w1 args) (X.2.2.2.2.2.2.1 _ w2 args) (X.2.2.2.2.2.2.1 _ w3 args) (X.2.2.2.2.2.2.1 _ w4 args) (src := pm_ro G a0) (dst := pm_ro G ad) (cs := vp_cell (G.2.1 ty) (n0, .inr (.inl f))) (cd := vp_cell (G.2.1 ty) (n1, .inr (.inl g))) (srcPos := isp) (destPos := idp) (n := ik) (by rw [hT]; exact hc0) (by rw [hT]; exact hc1)
    (fun _ h => by cases h) (fun _ h => by cases h) (fun h => by cases h) (fun h => by cases h) hk0 hk1 hkk0 hkk1 (by simp [hprim]) hi1 hi2 hi3
    (by rw [nn isp hi1, nn ik hi3]; show ¬ _ > ((arrV (G.2.1 ty) n0 (fun j => .long (f j))).slots.size : Int); rw [arrV_size]; omega)
    (by rw [nn idp hi2, nn ik hi3]; show ¬ _ > ((arrV (G.2.1 ty) n1 (fun j => .long (g j))).slots.size : Int); rw [arrV_size]; omega)
    (fun vm₁ _ i hi => by
      have e : (vp_cell (G.2.1 ty) (n0, .inr (.inl f))).slots.getD (isp.toNatClampNeg + i) .null = .long (f (isp.toNatClampNeg + i)) := by
        show (arrV (G.2.1 ty) n0 (fun j => .long (f j))).slots.getD _ _ = _
        rw [Array.getD_eq_getD_getElem?, arrV_read _ _ (by omega)]
        rfl
      refine ⟨?_, ?_⟩
      · rw [e]
        exact hfit i hi
      · rw [e]
        exact trivial)
    (g := F0 m pc ls (.int ik :: .int idp :: .ref (pm_ro G ad) :: .int isp :: .ref (pm_ro G a0) :: st.map (pm_rv G))) rfl (by rw [X.2.2.1]; exact hL.1) (rest := st.map (pm_rv G)) rfl (by rw [X.2.1]; exact d) hfr (by show 2 * 0 + _ + _ ≤ _; rw [pm_rv_cats]; omega)
  have e1 : copied (vp_cell (G.2.1 ty) (n0, .inr (.inl f))) (vp_cell (G.2.1 ty) (n1, .inr (.inl g))) isp idp ik = vp_cell (G.2.1 ty) (n1, .inr (.inl (va_cpy f g isp.toNatClampNeg idp.toNatClampNeg ik.toNatClampNeg))) := va_copied (fun z => .long z) (G.2.1 ty) (G.2.1 ty) f g h4
  rw [e1] at X' step
  have hlz : pm_ro G ad < H.size := (Array.getElem?_eq_some_iff.mp hc1).1
  have hheap : ((T.setVm vm').setCell (pm_ro G ad) (vp_cell (G.2.1 ty) (n1, .inr (.inl (va_cpy f g isp.toNatClampNeg idp.toNatClampNeg ik.toNatClampNeg))))).heap = H.setIfInBounds (pm_ro G ad) (vp_cell (G.2.1 ty) (n1, .inr (.inl (va_cpy f g isp.toNatClampNeg idp.toNatClampNeg ik.toNatClampNeg)))) := by rw [← hT]; rfl
  obtain ⟨t, a1, b1⟩ := K G p l e s m args below meth c _ _ ls cells slots Q X (hR.up (c := .inl (ty, n1, .inr (.inl (va_cpy f g isp.toNatClampNeg idp.toNatClampNeg ik.toNatClampNeg)))) (Or.inr ⟨hA1.1, (show (H.setIfInBounds (pm_ro G ad) (vp_cell (G.2.1 ty) (n1, .inr (.inl (va_cpy f g isp.toNatClampNeg idp.toNatClampNeg ik.toNatClampNeg)))))[pm_ro G ad]? = some _ by simp [Array.getElem?_setIfInBounds, hlz]; rfl), hta⟩) (by simp) (fun q hq => by simp [Array.getElem?_setIfInBounds, Ne.symm hq])) (fun q hq => by
      rcases List.mem_append.mp hq with z | z
      · exact hl q z
      · obtain ⟨z9, -, hz⟩ := List.mem_map.mp z
        rw [← hz]
        exact pm_ro_pos hA1.1) hL hc hs hE _ hheap X'
  exact ⟨t, step t a1, b1⟩
end PH
end
section
theorem lw_in1 {w : Cond} (h : w ∈ tables_1_1) : w ∈ lw_tbl := List.mem_append_right _ (show w ∈ tables_1_1 ++ (tables_1_2 ++ (tables_1_3 ++ (tables_1_4 ++ tables_1_5))) from List.mem_append_left _ h)
theorem lw_in2 {w : Cond} (h : w ∈ tables_1_2) : w ∈ lw_tbl := List.mem_append_right _ (show w ∈ tables_1_1 ++ (tables_1_2 ++ (tables_1_3 ++ (tables_1_4 ++ tables_1_5))) from List.mem_append_right _ (List.mem_append_left _ h))
theorem lw_in3 {w : Cond} (h : w ∈ tables_1_3) : w ∈ lw_tbl := List.mem_append_right _ (show w ∈ tables_1_1 ++ (tables_1_2 ++ (tables_1_3 ++ (tables_1_4 ++ tables_1_5))) from List.mem_append_right _ (List.mem_append_right _ (List.mem_append_left _ h)))
theorem lw_in4 {w : Cond} (h : w ∈ tables_1_4) : w ∈ lw_tbl := List.mem_append_right _ (show w ∈ tables_1_1 ++ (tables_1_2 ++ (tables_1_3 ++ (tables_1_4 ++ tables_1_5))) from List.mem_append_right _ (List.mem_append_right _ (List.mem_append_right _ (List.mem_append_left _ h))))
theorem lw_in5 {w : Cond} (h : w ∈ tables_1_5) : w ∈ lw_tbl := List.mem_append_right _ (show w ∈ tables_1_1 ++ (tables_1_2 ++ (tables_1_3 ++ (tables_1_4 ++ tables_1_5))) from List.mem_append_right _ (List.mem_append_right _ (List.mem_append_right _ (List.mem_append_right _ (h)))))
set_option maxRecDepth 100000 in
theorem wm_0 : Cond.selects RX9 yX9_keep yX9_keep ∈ pm_tbl := pm_m (List.mem_append_left _ (List.mem_of_getElem? (i := 0) rfl)) rfl
set_option maxRecDepth 100000 in
theorem wm_1 : Cond.selects RX9 yX9_casterAt yX9_casterAt ∈ pm_tbl := pm_m (List.mem_append_left _ (List.mem_of_getElem? (i := 1) rfl)) rfl
set_option maxRecDepth 100000 in
theorem wm_2 : Cond.selects RX6 yX6_rest yX6_rest ∈ pm_tbl := pm_m (List.mem_append_left _ (List.mem_of_getElem? (i := 2) rfl)) rfl
set_option maxRecDepth 100000 in
theorem wm_3 : Cond.selects RX9 yX9_found yX9_found ∈ pm_tbl := pm_m (List.mem_append_left _ (List.mem_of_getElem? (i := 3) rfl)) rfl
set_option maxRecDepth 100000 in
theorem wm_4 : Cond.selects RX6 yX6_partHeaps yX6_partHeaps ∈ pm_tbl := pm_m (List.mem_append_left _ (List.mem_of_getElem? (i := 4) rfl)) rfl
set_option maxRecDepth 100000 in
theorem wm_5 : Cond.selects RX6 yX6_sharesOf yX6_sharesOf ∈ pm_tbl := pm_m (List.mem_append_left _ (List.mem_of_getElem? (i := 5) rfl)) rfl
set_option maxRecDepth 100000 in
theorem wm_6 : Cond.selects RX6 yX6_partHeap yX6_partHeap ∈ pm_tbl := pm_m (List.mem_append_left _ (List.mem_of_getElem? (i := 6) rfl)) rfl
set_option maxRecDepth 100000 in
theorem wm_7 : Cond.selects RX9 yX9_tellFraction yX9_tellFraction ∈ pm_tbl := pm_m (List.mem_append_left _ (List.mem_of_getElem? (i := 7) rfl)) rfl
set_option maxRecDepth 100000 in
theorem wm_8 : Cond.selects RX9 yX9_figureAt yX9_figureAt ∈ pm_tbl := pm_m (List.mem_append_left _ (List.mem_of_getElem? (i := 8) rfl)) rfl
set_option maxRecDepth 100000 in
theorem wm_9 : Cond.selects RX8 yX8_meetAll yX8_meetAll ∈ pm_tbl := pm_m (List.mem_append_left _ (List.mem_of_getElem? (i := 9) rfl)) rfl
set_option maxRecDepth 100000 in
theorem wm_10 : Cond.selects RX9 yX9_rowAt yX9_rowAt ∈ pm_tbl := pm_m (List.mem_append_left _ (List.mem_of_getElem? (i := 10) rfl)) rfl
set_option maxRecDepth 100000 in
theorem wm_11 : Cond.selects RX0 yX0_isMisfit yX0_isMisfit ∈ pm_tbl := pm_m (List.mem_append_left _ (List.mem_of_getElem? (i := 11) rfl)) rfl
set_option maxRecDepth 100000 in
theorem wm_12 : Cond.selects RX0 yX0_isMisfitPair yX0_isMisfitPair ∈ pm_tbl := pm_m (List.mem_append_left _ (List.mem_of_getElem? (i := 12) rfl)) rfl
set_option maxRecDepth 100000 in
theorem wm_13 : Cond.selects RX0 yX0_isMendedBy yX0_isMendedBy ∈ pm_tbl := pm_m (List.mem_append_left _ (List.mem_of_getElem? (i := 13) rfl)) rfl
set_option maxRecDepth 100000 in
theorem wm_14 : Cond.selects RX0 yX0_changePlaces yX0_changePlaces ∈ pm_tbl := pm_m (List.mem_append_left _ (List.mem_of_getElem? (i := 14) rfl)) rfl
set_option maxRecDepth 100000 in
theorem wm_15 : Cond.selects RX9 yX9_weighedDiffer yX9_weighedDiffer ∈ pm_tbl := pm_m (List.mem_append_left _ (List.mem_of_getElem? (i := 15) rfl)) rfl
set_option maxRecDepth 100000 in
theorem wm_16 : Cond.selects RX9 yX9_rowsThere yX9_rowsThere ∈ pm_tbl := pm_m (List.mem_append_left _ (List.mem_of_getElem? (i := 16) rfl)) rfl
set_option maxRecDepth 100000 in
theorem wm_17 : Cond.selects RX9 yX9_oldLinesOfAll yX9_oldLinesOfAll ∈ pm_tbl := pm_m (List.mem_append_left _ (List.mem_of_getElem? (i := 17) rfl)) rfl
set_option maxRecDepth 100000 in
theorem wm_18 : Cond.selects RX10 yX10_put yX10_put ∈ pm_tbl := pm_m (List.mem_append_left _ (List.mem_of_getElem? (i := 18) rfl)) rfl
set_option maxRecDepth 100000 in
theorem wm_19 : Cond.selects RX10 yX10_isCaster yX10_isCaster ∈ pm_tbl := pm_m (List.mem_append_left _ (List.mem_of_getElem? (i := 19) rfl)) rfl
set_option maxRecDepth 100000 in
theorem wm_20 : Cond.selects RX10 yX10_tells yX10_tells ∈ pm_tbl := pm_m (List.mem_append_left _ (List.mem_of_getElem? (i := 20) rfl)) rfl
set_option maxRecDepth 100000 in
theorem wm_21 : Cond.selects RX10 yX10_parts yX10_parts ∈ pm_tbl := pm_m (List.mem_append_left _ (List.mem_of_getElem? (i := 21) rfl)) rfl
set_option maxRecDepth 100000 in
theorem wm_22 : Cond.selects RX10 yX10_meets yX10_meets ∈ pm_tbl := pm_m (List.mem_append_left _ (List.mem_of_getElem? (i := 22) rfl)) rfl
set_option maxRecDepth 100000 in
theorem wm_23 : Cond.selects RX10 yX10_left yX10_left ∈ pm_tbl := pm_m (List.mem_append_left _ (List.mem_of_getElem? (i := 23) rfl)) rfl
set_option maxRecDepth 100000 in
theorem wm_24 : Cond.selects RX10 yX10_places yX10_places ∈ pm_tbl := pm_m (List.mem_append_left _ (List.mem_of_getElem? (i := 24) rfl)) rfl
set_option maxRecDepth 100000 in
theorem wm_25 : Cond.selects RX10 yX10_first yX10_first ∈ pm_tbl := pm_m (List.mem_append_left _ (List.mem_of_getElem? (i := 25) rfl)) rfl
set_option maxRecDepth 100000 in
theorem wm_26 : Cond.selects RX10 yX10_setOdds yX10_setOdds ∈ pm_tbl := pm_m (List.mem_append_left _ (List.mem_of_getElem? (i := 26) rfl)) rfl
set_option maxRecDepth 100000 in
theorem wm_27 : Cond.selects RX10 yX10_clearOdds yX10_clearOdds ∈ pm_tbl := pm_m (List.mem_append_left _ (List.mem_of_getElem? (i := 27) rfl)) rfl
set_option maxRecDepth 100000 in
theorem wm_28 : Cond.selects RX10 yX10_partAll yX10_partAll ∈ pm_tbl := pm_m (List.mem_append_left _ (List.mem_of_getElem? (i := 28) rfl)) rfl
set_option maxRecDepth 100000 in
theorem wm_29 : Cond.selects RX10 yX10_add yX10_add ∈ pm_tbl := pm_m (List.mem_append_left _ (List.mem_of_getElem? (i := 29) rfl)) rfl
set_option maxRecDepth 100000 in
theorem wm_30 : Cond.selects RX10 yX10_tell yX10_tell ∈ pm_tbl := pm_m (List.mem_append_left _ (List.mem_of_getElem? (i := 30) rfl)) rfl
set_option maxRecDepth 100000 in
theorem wm_31 : Cond.selects RX10 yX10_draws yX10_draws ∈ pm_tbl := pm_m (List.mem_append_left _ (List.mem_of_getElem? (i := 31) rfl)) rfl
set_option maxRecDepth 100000 in
theorem wm_32 : Cond.selects RX10 yX10_under yX10_under ∈ pm_tbl := pm_m (List.mem_append_left _ (List.mem_of_getElem? (i := 32) rfl)) rfl
set_option maxRecDepth 100000 in
theorem wm_33 : Cond.selects RX10 yX10_numberOf yX10_numberOf ∈ pm_tbl := pm_m (List.mem_append_left _ (List.mem_of_getElem? (i := 33) rfl)) rfl
set_option maxRecDepth 100000 in
theorem wm_34 : Cond.selects RX10 yX10_looked yX10_looked ∈ pm_tbl := pm_m (List.mem_append_left _ (List.mem_of_getElem? (i := 34) rfl)) rfl
set_option maxRecDepth 100000 in
theorem wm_35 : Cond.selects RX10 yX10_misfitsOf yX10_misfitsOf ∈ pm_tbl := pm_m (List.mem_append_left _ (List.mem_of_getElem? (i := 35) rfl)) rfl
set_option maxRecDepth 100000 in
theorem wm_36 : Cond.selects RX10 yX10_leaf yX10_leaf ∈ pm_tbl := pm_m (List.mem_append_left _ (List.mem_of_getElem? (i := 36) rfl)) rfl
set_option maxRecDepth 100000 in
theorem wm_37 : Cond.selects RX10 yX10_swap yX10_swap ∈ pm_tbl := pm_m (List.mem_append_left _ (List.mem_of_getElem? (i := 37) rfl)) rfl
set_option maxRecDepth 100000 in
theorem wm_38 : Cond.selects RX10 yX10_counts yX10_counts ∈ pm_tbl := pm_m (List.mem_append_left _ (List.mem_of_getElem? (i := 38) rfl)) rfl
set_option maxRecDepth 100000 in
theorem wm_39 : Cond.selects RX10 yX10_offOf yX10_offOf ∈ pm_tbl := pm_m (List.mem_append_left _ (List.mem_of_getElem? (i := 39) rfl)) rfl
set_option maxRecDepth 100000 in
theorem wm_40 : Cond.selects RX10 yX10_setShares yX10_setShares ∈ pm_tbl := pm_m (List.mem_append_left _ (List.mem_of_getElem? (i := 40) rfl)) rfl
set_option maxRecDepth 100000 in
theorem wm_41 : Cond.initialized RL ∈ pm_tbl := pm_m (lw_in1 (List.mem_of_getElem? (i := 0) rfl)) rfl
set_option maxRecDepth 100000 in
theorem wm_42 : Cond.initialized RX9 ∈ pm_tbl := pm_m (lw_in1 (List.mem_of_getElem? (i := 1) rfl)) rfl
set_option maxRecDepth 100000 in
theorem wm_43 : Cond.initialized RX3 ∈ pm_tbl := pm_m (lw_in1 (List.mem_of_getElem? (i := 2) rfl)) rfl
set_option maxRecDepth 100000 in
theorem wm_44 : Cond.initialized RJ7 ∈ pm_tbl := pm_m (lw_in1 (List.mem_of_getElem? (i := 3) rfl)) rfl
set_option maxRecDepth 100000 in
theorem wm_45 : Cond.initialized RX8 ∈ pm_tbl := pm_m (lw_in1 (List.mem_of_getElem? (i := 4) rfl)) rfl
set_option maxRecDepth 100000 in
theorem wm_46 : Cond.initialized RX5 ∈ pm_tbl := pm_m (lw_in1 (List.mem_of_getElem? (i := 5) rfl)) rfl
set_option maxRecDepth 100000 in
theorem wm_47 : Cond.initialized RX4 ∈ pm_tbl := pm_m (lw_in1 (List.mem_of_getElem? (i := 6) rfl)) rfl
set_option maxRecDepth 100000 in
theorem wm_48 : Cond.initialized RX0 ∈ pm_tbl := pm_m (lw_in1 (List.mem_of_getElem? (i := 7) rfl)) rfl
set_option maxRecDepth 100000 in
theorem wm_49 : Cond.initialized RX10 ∈ pm_tbl := pm_m (lw_in1 (List.mem_of_getElem? (i := 8) rfl)) rfl
set_option maxRecDepth 100000 in
theorem wm_50 : Cond.initialized RX1 ∈ pm_tbl := pm_m (lw_in1 (List.mem_of_getElem? (i := 9) rfl)) rfl
set_option maxRecDepth 100000 in
theorem wm_51 : Cond.initialized RX2 ∈ pm_tbl := pm_m (lw_in1 (List.mem_of_getElem? (i := 10) rfl)) rfl
set_option maxRecDepth 100000 in
theorem wm_52 : Cond.initialized RX6 ∈ pm_tbl := pm_m (lw_in1 (List.mem_of_getElem? (i := 11) rfl)) rfl
set_option maxRecDepth 100000 in
theorem wm_53 : Cond.initialized RX7 ∈ pm_tbl := pm_m (lw_in1 (List.mem_of_getElem? (i := 12) rfl)) rfl
set_option maxRecDepth 100000 in
theorem wm_54 : Cond.initialized RJ10 ∈ pm_tbl := pm_m (lw_in1 (List.mem_of_getElem? (i := 13) rfl)) rfl
set_option maxRecDepth 100000 in
theorem wm_55 : Cond.initialized RJ13 ∈ pm_tbl := pm_m (lw_in1 (List.mem_of_getElem? (i := 14) rfl)) rfl
set_option maxRecDepth 100000 in
theorem wm_56 : Cond.initialized RJ9 ∈ pm_tbl := pm_m (lw_in1 (List.mem_of_getElem? (i := 15) rfl)) rfl
set_option maxRecDepth 100000 in
theorem wm_57 : Cond.classLink RL 7 RX9 ∈ pm_tbl := pm_m (lw_in1 (List.mem_of_getElem? (i := 16) rfl)) rfl
set_option maxRecDepth 100000 in
theorem wm_58 : Cond.instantiable RX9 15 ∈ pm_tbl := pm_m (lw_in1 (List.mem_of_getElem? (i := 17) rfl)) rfl
set_option maxRecDepth 100000 in
theorem wm_59 : Cond.methodLink RL 9 yX9_init ∈ pm_tbl := pm_m (lw_in1 (List.mem_of_getElem? (i := 18) rfl)) rfl
set_option maxRecDepth 100000 in
theorem wm_60 : Cond.instanceMethod yX9_init ∈ pm_tbl := pm_m (lw_in1 (List.mem_of_getElem? (i := 19) rfl)) rfl
set_option maxRecDepth 100000 in
theorem wm_61 : Cond.code yX9_init cX9_init 2 none ∈ pm_tbl := pm_m (lw_in1 (List.mem_of_getElem? (i := 20) rfl)) rfl
set_option maxRecDepth 100000 in
theorem wm_62 : Cond.methodLink RX9 3 ⟨"java/lang/Object", "<init>", "()V"⟩ ∈ pm_tbl := pm_m (lw_in1 (List.mem_of_getElem? (i := 21) rfl)) rfl
set_option maxRecDepth 100000 in
theorem wm_63 : Cond.instanceMethod ⟨"java/lang/Object", "<init>", "()V"⟩ ∈ pm_tbl := pm_m (lw_in1 (List.mem_of_getElem? (i := 22) rfl)) rfl
set_option maxRecDepth 100000 in
theorem wm_64 : Cond.code Lib.objectInit ⟨#[0xb1]⟩ 1 none ∈ pm_tbl := pm_m (lw_in1 (List.mem_of_getElem? (i := 23) rfl)) rfl
set_option maxRecDepth 100000 in
theorem wm_65 : Cond.classLink RX9 9 RX1 ∈ pm_tbl := pm_m (lw_in1 (List.mem_of_getElem? (i := 24) rfl)) rfl
set_option maxRecDepth 100000 in
theorem wm_66 : Cond.arrayOver (.object RX1) ∈ pm_tbl := pm_m (lw_in1 (List.mem_of_getElem? (i := 25) rfl)) rfl
set_option maxRecDepth 100000 in
theorem wm_67 : Cond.classLink RX9 19 RX3 ∈ pm_tbl := pm_m (lw_in1 (List.mem_of_getElem? (i := 26) rfl)) rfl
set_option maxRecDepth 100000 in
theorem wm_68 : Cond.arrayOver (.object RX3) ∈ pm_tbl := pm_m (lw_in1 (List.mem_of_getElem? (i := 27) rfl)) rfl
set_option maxRecDepth 100000 in
theorem wm_69 : Cond.instantiable RX3 1 ∈ pm_tbl := pm_m (lw_in1 (List.mem_of_getElem? (i := 28) rfl)) rfl
set_option maxRecDepth 100000 in
theorem wm_70 : Cond.methodLink RX9 25 yX3_init ∈ pm_tbl := pm_m (lw_in1 (List.mem_of_getElem? (i := 29) rfl)) rfl
set_option maxRecDepth 100000 in
theorem wm_71 : Cond.instanceMethod yX3_init ∈ pm_tbl := pm_m (lw_in1 (List.mem_of_getElem? (i := 30) rfl)) rfl
set_option maxRecDepth 100000 in
theorem wm_72 : Cond.code yX3_init cX3_init 1 none ∈ pm_tbl := pm_m (lw_in1 (List.mem_of_getElem? (i := 31) rfl)) rfl
set_option maxRecDepth 100000 in
theorem wm_73 : Cond.methodLink RX3 3 ⟨"java/lang/Object", "<init>", "()V"⟩ ∈ pm_tbl := pm_m (lw_in1 (List.mem_of_getElem? (i := 32) rfl)) rfl
set_option maxRecDepth 100000 in
theorem wm_74 : Cond.methodLink RX3 15 yJ7_fill_53178 ∈ pm_tbl := pm_m (lw_in1 (List.mem_of_getElem? (i := 33) rfl)) rfl
set_option maxRecDepth 100000 in
theorem wm_75 : Cond.static yJ7_fill_53178 ∈ pm_tbl := pm_m (lw_in1 (List.mem_of_getElem? (i := 34) rfl)) rfl
set_option maxRecDepth 100000 in
theorem wm_76 : Cond.code yJ7_fill_53178 cJ7_fill_53178 4 none ∈ pm_tbl := pm_m (lw_in1 (List.mem_of_getElem? (i := 35) rfl)) rfl
set_option maxRecDepth 100000 in
theorem wm_77 : Cond.fieldLink RX3 9 RX3 "lines" "[I" ∈ pm_tbl := pm_m (lw_in1 (List.mem_of_getElem? (i := 36) rfl)) rfl
set_option maxRecDepth 100000 in
theorem wm_78 : Cond.fieldLinkNest RX9 162 RX3 "lines" "[I" RX9 ∈ pm_tbl := pm_m (lw_in1 (List.mem_of_getElem? (i := 37) rfl)) rfl
set_option maxRecDepth 100000 in
theorem wm_82 : Cond.arrayClass .int ∈ pm_tbl := pm_m (lw_in1 (List.mem_of_getElem? (i := 41) rfl)) rfl
set_option maxRecDepth 100000 in
theorem wm_83 : Cond.classLink RX9 30 RX0 ∈ pm_tbl := pm_m (lw_in1 (List.mem_of_getElem? (i := 42) rfl)) rfl
set_option maxRecDepth 100000 in
theorem wm_84 : Cond.arrayOver (.object RX0) ∈ pm_tbl := pm_m (lw_in1 (List.mem_of_getElem? (i := 43) rfl)) rfl
set_option maxRecDepth 100000 in
theorem wm_85 : Cond.classLink RX9 36 RX8 ∈ pm_tbl := pm_m (lw_in1 (List.mem_of_getElem? (i := 44) rfl)) rfl
set_option maxRecDepth 100000 in
theorem wm_86 : Cond.instantiable RX8 5 ∈ pm_tbl := pm_m (lw_in1 (List.mem_of_getElem? (i := 45) rfl)) rfl
set_option maxRecDepth 100000 in
theorem wm_87 : Cond.methodLinkNest RX9 38 yX8_init RX9 ∈ pm_tbl := pm_m (lw_in1 (List.mem_of_getElem? (i := 46) rfl)) rfl
set_option maxRecDepth 100000 in
theorem wm_88 : Cond.instanceMethod yX8_init ∈ pm_tbl := pm_m (lw_in1 (List.mem_of_getElem? (i := 47) rfl)) rfl
set_option maxRecDepth 100000 in
theorem wm_89 : Cond.code yX8_init cX8_init 1 none ∈ pm_tbl := pm_m (lw_in1 (List.mem_of_getElem? (i := 48) rfl)) rfl
set_option maxRecDepth 100000 in
theorem wm_90 : Cond.methodLink RX8 3 ⟨"java/lang/Object", "<init>", "()V"⟩ ∈ pm_tbl := pm_m (lw_in1 (List.mem_of_getElem? (i := 49) rfl)) rfl
set_option maxRecDepth 100000 in
theorem wm_91 : Cond.fieldLink RX8 9 RX8 "waiting" "[I" ∈ pm_tbl := pm_m (lw_in1 (List.mem_of_getElem? (i := 50) rfl)) rfl
set_option maxRecDepth 100000 in
theorem wm_92 : Cond.fieldLink RX8 15 RX8 "before" "[I" ∈ pm_tbl := pm_m (lw_in1 (List.mem_of_getElem? (i := 51) rfl)) rfl
set_option maxRecDepth 100000 in
theorem wm_93 : Cond.fieldLink RX8 18 RX8 "metBy" "[I" ∈ pm_tbl := pm_m (lw_in1 (List.mem_of_getElem? (i := 52) rfl)) rfl
set_option maxRecDepth 100000 in
theorem wm_94 : Cond.fieldLink RX8 21 RX8 "acts" "[I" ∈ pm_tbl := pm_m (lw_in1 (List.mem_of_getElem? (i := 53) rfl)) rfl
set_option maxRecDepth 100000 in
theorem wm_95 : Cond.fieldLink RX8 24 RX8 "actCount" "I" ∈ pm_tbl := pm_m (lw_in1 (List.mem_of_getElem? (i := 54) rfl)) rfl
set_option maxRecDepth 100000 in
theorem wm_107 : Cond.classLink RX9 43 RX5 ∈ pm_tbl := pm_m (lw_in1 (List.mem_of_getElem? (i := 66) rfl)) rfl
set_option maxRecDepth 100000 in
theorem wm_108 : Cond.instantiable RX5 1 ∈ pm_tbl := pm_m (lw_in1 (List.mem_of_getElem? (i := 67) rfl)) rfl
set_option maxRecDepth 100000 in
theorem wm_109 : Cond.methodLinkNest RX9 45 yX5_init RX9 ∈ pm_tbl := pm_m (lw_in1 (List.mem_of_getElem? (i := 68) rfl)) rfl
set_option maxRecDepth 100000 in
theorem wm_110 : Cond.instanceMethod yX5_init ∈ pm_tbl := pm_m (lw_in1 (List.mem_of_getElem? (i := 69) rfl)) rfl
set_option maxRecDepth 100000 in
theorem wm_111 : Cond.code yX5_init cX5_init 1 none ∈ pm_tbl := pm_m (lw_in1 (List.mem_of_getElem? (i := 70) rfl)) rfl
set_option maxRecDepth 100000 in
theorem wm_112 : Cond.methodLink RX5 1 ⟨"java/lang/Object", "<init>", "()V"⟩ ∈ pm_tbl := pm_m (lw_in1 (List.mem_of_getElem? (i := 71) rfl)) rfl
set_option maxRecDepth 100000 in
theorem wm_113 : Cond.fieldLink RX5 7 RX5 "s" "J" ∈ pm_tbl := pm_m (lw_in1 (List.mem_of_getElem? (i := 72) rfl)) rfl
set_option maxRecDepth 100000 in
theorem wm_117 : Cond.classLink RX9 50 RX4 ∈ pm_tbl := pm_m (lw_in1 (List.mem_of_getElem? (i := 76) rfl)) rfl
set_option maxRecDepth 100000 in
theorem wm_118 : Cond.instantiable RX4 4 ∈ pm_tbl := pm_m (lw_in1 (List.mem_of_getElem? (i := 77) rfl)) rfl
set_option maxRecDepth 100000 in
theorem wm_119 : Cond.methodLinkNest RX9 52 yX4_init RX9 ∈ pm_tbl := pm_m (lw_in1 (List.mem_of_getElem? (i := 78) rfl)) rfl
set_option maxRecDepth 100000 in
theorem wm_120 : Cond.instanceMethod yX4_init ∈ pm_tbl := pm_m (lw_in1 (List.mem_of_getElem? (i := 79) rfl)) rfl
set_option maxRecDepth 100000 in
theorem wm_121 : Cond.code yX4_init cX4_init 1 none ∈ pm_tbl := pm_m (lw_in1 (List.mem_of_getElem? (i := 80) rfl)) rfl
set_option maxRecDepth 100000 in
theorem wm_122 : Cond.methodLink RX4 3 ⟨"java/lang/Object", "<init>", "()V"⟩ ∈ pm_tbl := pm_m (lw_in1 (List.mem_of_getElem? (i := 81) rfl)) rfl
set_option maxRecDepth 100000 in
theorem wm_123 : Cond.fieldLink RX4 9 RX4 "weights" "[J" ∈ pm_tbl := pm_m (lw_in1 (List.mem_of_getElem? (i := 82) rfl)) rfl
set_option maxRecDepth 100000 in
theorem wm_124 : Cond.fieldLinkNest RX1 15 RX4 "weights" "[J" RX9 ∈ pm_tbl := pm_m (lw_in1 (List.mem_of_getElem? (i := 83) rfl)) rfl
set_option maxRecDepth 100000 in
theorem wm_125 : Cond.fieldLinkNest RX2 23 RX4 "weights" "[J" RX9 ∈ pm_tbl := pm_m (lw_in1 (List.mem_of_getElem? (i := 84) rfl)) rfl
set_option maxRecDepth 100000 in
theorem wm_126 : Cond.fieldLinkNest RX9 139 RX4 "weights" "[J" RX9 ∈ pm_tbl := pm_m (lw_in1 (List.mem_of_getElem? (i := 85) rfl)) rfl
set_option maxRecDepth 100000 in
theorem wm_127 : Cond.fieldLinkNest RX6 64 RX4 "weights" "[J" RX9 ∈ pm_tbl := pm_m (lw_in1 (List.mem_of_getElem? (i := 86) rfl)) rfl
set_option maxRecDepth 100000 in
theorem wm_128 : Cond.fieldLink RX4 15 RX4 "heaps" "[J" ∈ pm_tbl := pm_m (lw_in1 (List.mem_of_getElem? (i := 87) rfl)) rfl
set_option maxRecDepth 100000 in
theorem wm_129 : Cond.fieldLinkNest RX6 68 RX4 "heaps" "[J" RX9 ∈ pm_tbl := pm_m (lw_in1 (List.mem_of_getElem? (i := 88) rfl)) rfl
set_option maxRecDepth 100000 in
theorem wm_130 : Cond.fieldLink RX4 18 RX4 "nextHeaps" "[J" ∈ pm_tbl := pm_m (lw_in1 (List.mem_of_getElem? (i := 89) rfl)) rfl
set_option maxRecDepth 100000 in
theorem wm_131 : Cond.fieldLinkNest RX6 79 RX4 "nextHeaps" "[J" RX9 ∈ pm_tbl := pm_m (lw_in1 (List.mem_of_getElem? (i := 90) rfl)) rfl
set_option maxRecDepth 100000 in
theorem wm_132 : Cond.fieldLink RX4 21 RX4 "all" "J" ∈ pm_tbl := pm_m (lw_in1 (List.mem_of_getElem? (i := 91) rfl)) rfl
set_option maxRecDepth 100000 in
theorem wm_133 : Cond.fieldLinkNest RX9 143 RX4 "all" "J" RX9 ∈ pm_tbl := pm_m (lw_in1 (List.mem_of_getElem? (i := 92) rfl)) rfl
set_option maxRecDepth 100000 in
theorem wm_134 : Cond.fieldLinkNest RX6 75 RX4 "all" "J" RX9 ∈ pm_tbl := pm_m (lw_in1 (List.mem_of_getElem? (i := 93) rfl)) rfl
set_option maxRecDepth 100000 in
theorem wm_144 : Cond.arrayClass .long ∈ pm_tbl := pm_m (lw_in1 (List.mem_of_getElem? (i := 103) rfl)) rfl
set_option maxRecDepth 100000 in
theorem wm_145 : Cond.instantiable RX0 2 ∈ pm_tbl := pm_m (lw_in1 (List.mem_of_getElem? (i := 104) rfl)) rfl
set_option maxRecDepth 100000 in
theorem wm_146 : Cond.methodLinkNest RX9 80 yX0_init RX9 ∈ pm_tbl := pm_m (lw_in1 (List.mem_of_getElem? (i := 105) rfl)) rfl
set_option maxRecDepth 100000 in
theorem wm_147 : Cond.instanceMethod yX0_init ∈ pm_tbl := pm_m (lw_in1 (List.mem_of_getElem? (i := 106) rfl)) rfl
set_option maxRecDepth 100000 in
theorem wm_148 : Cond.code yX0_init cX0_init 1 none ∈ pm_tbl := pm_m (lw_in1 (List.mem_of_getElem? (i := 107) rfl)) rfl
set_option maxRecDepth 100000 in
theorem wm_149 : Cond.methodLink RX0 3 ⟨"java/lang/Object", "<init>", "()V"⟩ ∈ pm_tbl := pm_m (lw_in1 (List.mem_of_getElem? (i := 108) rfl)) rfl
set_option maxRecDepth 100000 in
theorem wm_150 : Cond.fieldLink RX0 9 RX0 "bytes" "[B" ∈ pm_tbl := pm_m (lw_in1 (List.mem_of_getElem? (i := 109) rfl)) rfl
set_option maxRecDepth 100000 in
theorem wm_151 : Cond.fieldLinkNest RX9 208 RX0 "bytes" "[B" RX9 ∈ pm_tbl := pm_m (lw_in1 (List.mem_of_getElem? (i := 110) rfl)) rfl
set_option maxRecDepth 100000 in
theorem wm_152 : Cond.fieldLink RX0 15 RX0 "size" "I" ∈ pm_tbl := pm_m (lw_in1 (List.mem_of_getElem? (i := 111) rfl)) rfl
set_option maxRecDepth 100000 in
theorem wm_153 : Cond.fieldLinkNest RX9 205 RX0 "size" "I" RX9 ∈ pm_tbl := pm_m (lw_in1 (List.mem_of_getElem? (i := 112) rfl)) rfl
set_option maxRecDepth 100000 in
theorem wm_159 : Cond.arrayClass .byte ∈ pm_tbl := pm_m (lw_in1 (List.mem_of_getElem? (i := 118) rfl)) rfl
set_option maxRecDepth 100000 in
theorem wm_160 : Cond.fieldLink RX9 11 RX9 "casters" "[LStalkRoom$Caster;" ∈ pm_tbl := pm_m (lw_in1 (List.mem_of_getElem? (i := 119) rfl)) rfl
set_option maxRecDepth 100000 in
theorem wm_161 : Cond.fieldLink RX9 15 RX9 "casterCount" "I" ∈ pm_tbl := pm_m (lw_in1 (List.mem_of_getElem? (i := 120) rfl)) rfl
set_option maxRecDepth 100000 in
theorem wm_162 : Cond.fieldLink RX9 21 RX9 "figures" "[LStalkRoom$Figure;" ∈ pm_tbl := pm_m (lw_in1 (List.mem_of_getElem? (i := 121) rfl)) rfl
set_option maxRecDepth 100000 in
theorem wm_163 : Cond.fieldLink RX9 26 RX9 "spare" "LStalkRoom$Figure;" ∈ pm_tbl := pm_m (lw_in1 (List.mem_of_getElem? (i := 122) rfl)) rfl
set_option maxRecDepth 100000 in
theorem wm_164 : Cond.fieldLink RX9 32 RX9 "rows" "[LStalkRoom$ByteRow;" ∈ pm_tbl := pm_m (lw_in1 (List.mem_of_getElem? (i := 123) rfl)) rfl
set_option maxRecDepth 100000 in
theorem wm_165 : Cond.fieldLink RX9 39 RX9 "finder" "LStalkRoom$WayFinder;" ∈ pm_tbl := pm_m (lw_in1 (List.mem_of_getElem? (i := 124) rfl)) rfl
set_option maxRecDepth 100000 in
theorem wm_166 : Cond.fieldLink RX9 46 RX9 "seed" "LStalkRoom$Seed;" ∈ pm_tbl := pm_m (lw_in1 (List.mem_of_getElem? (i := 125) rfl)) rfl
set_option maxRecDepth 100000 in
theorem wm_167 : Cond.fieldLink RX9 53 RX9 "odds" "LStalkRoom$Odds;" ∈ pm_tbl := pm_m (lw_in1 (List.mem_of_getElem? (i := 126) rfl)) rfl
set_option maxRecDepth 100000 in
theorem wm_168 : Cond.fieldLink RX9 57 RX9 "parts" "[I" ∈ pm_tbl := pm_m (lw_in1 (List.mem_of_getElem? (i := 127) rfl)) rfl
set_option maxRecDepth 100000 in
theorem wm_169 : Cond.fieldLink RX9 61 RX9 "otherParts" "[I" ∈ pm_tbl := pm_m (lw_in1 (List.mem_of_getElem? (i := 128) rfl)) rfl
set_option maxRecDepth 100000 in
theorem wm_170 : Cond.fieldLink RX9 64 RX9 "findingTimes" "[I" ∈ pm_tbl := pm_m (lw_in1 (List.mem_of_getElem? (i := 129) rfl)) rfl
set_option maxRecDepth 100000 in
theorem wm_171 : Cond.fieldLink RX9 67 RX9 "latestFinding" "I" ∈ pm_tbl := pm_m (lw_in1 (List.mem_of_getElem? (i := 130) rfl)) rfl
set_option maxRecDepth 100000 in
theorem wm_172 : Cond.fieldLink RX9 70 RX9 "lastAsked" "J" ∈ pm_tbl := pm_m (lw_in1 (List.mem_of_getElem? (i := 131) rfl)) rfl
set_option maxRecDepth 100000 in
theorem wm_173 : Cond.fieldLink RX9 74 RX9 "fractionUpper" "J" ∈ pm_tbl := pm_m (lw_in1 (List.mem_of_getElem? (i := 132) rfl)) rfl
set_option maxRecDepth 100000 in
theorem wm_174 : Cond.fieldLink RX9 77 RX9 "fractionLower" "J" ∈ pm_tbl := pm_m (lw_in1 (List.mem_of_getElem? (i := 133) rfl)) rfl
set_option maxRecDepth 100000 in
theorem wm_206 : Cond.methodLink RL 13 yX9_caster ∈ pm_tbl := pm_m (lw_in1 (List.mem_of_getElem? (i := 165) rfl)) rfl
set_option maxRecDepth 100000 in
theorem wm_207 : Cond.instanceMethod yX9_caster ∈ pm_tbl := pm_m (lw_in1 (List.mem_of_getElem? (i := 166) rfl)) rfl
set_option maxRecDepth 100000 in
theorem wm_208 : Cond.selects RX9 yX9_caster yX9_caster ∈ pm_tbl := pm_m (lw_in1 (List.mem_of_getElem? (i := 167) rfl)) rfl
set_option maxRecDepth 100000 in
theorem wm_209 : Cond.code yX9_caster cX9_caster 2 (some .int) ∈ pm_tbl := pm_m (lw_in1 (List.mem_of_getElem? (i := 168) rfl)) rfl
set_option maxRecDepth 100000 in
theorem wm_210 : Cond.classLink RX9 81 RX2 ∈ pm_tbl := pm_m (lw_in1 (List.mem_of_getElem? (i := 169) rfl)) rfl
set_option maxRecDepth 100000 in
theorem wm_211 : Cond.instantiable RX2 0 ∈ pm_tbl := pm_m (lw_in1 (List.mem_of_getElem? (i := 170) rfl)) rfl
set_option maxRecDepth 100000 in
theorem wm_212 : Cond.methodLinkNest RX9 83 yX2_init RX9 ∈ pm_tbl := pm_m (lw_in1 (List.mem_of_getElem? (i := 171) rfl)) rfl
set_option maxRecDepth 100000 in
theorem wm_213 : Cond.instanceMethod yX2_init ∈ pm_tbl := pm_m (lw_in1 (List.mem_of_getElem? (i := 172) rfl)) rfl
set_option maxRecDepth 100000 in
theorem wm_214 : Cond.code yX2_init cX2_init 1 none ∈ pm_tbl := pm_m (lw_in1 (List.mem_of_getElem? (i := 173) rfl)) rfl
set_option maxRecDepth 100000 in
theorem wm_215 : Cond.methodLinkNest RX2 3 yX1_init RX9 ∈ pm_tbl := pm_m (lw_in1 (List.mem_of_getElem? (i := 174) rfl)) rfl
set_option maxRecDepth 100000 in
theorem wm_216 : Cond.instanceMethod yX1_init ∈ pm_tbl := pm_m (lw_in1 (List.mem_of_getElem? (i := 175) rfl)) rfl
set_option maxRecDepth 100000 in
theorem wm_217 : Cond.code yX1_init cX1_init 1 none ∈ pm_tbl := pm_m (lw_in1 (List.mem_of_getElem? (i := 176) rfl)) rfl
set_option maxRecDepth 100000 in
theorem wm_218 : Cond.methodLink RX1 3 ⟨"java/lang/Object", "<init>", "()V"⟩ ∈ pm_tbl := pm_m (lw_in1 (List.mem_of_getElem? (i := 177) rfl)) rfl
set_option maxRecDepth 100000 in
theorem wm_220 : Cond.instantiable RX1 0 ∈ pm_tbl := pm_m (lw_in1 (List.mem_of_getElem? (i := 179) rfl)) rfl
set_option maxRecDepth 100000 in
theorem wm_221 : Cond.methodLinkNest RX9 84 yX1_init RX9 ∈ pm_tbl := pm_m (lw_in1 (List.mem_of_getElem? (i := 180) rfl)) rfl
set_option maxRecDepth 100000 in
theorem wm_223 : Cond.methodLink RX9 85 yX9_keep ∈ pm_tbl := pm_m (lw_in1 (List.mem_of_getElem? (i := 182) rfl)) rfl
set_option maxRecDepth 100000 in
theorem wm_225 : Cond.instanceMethod yX9_keep ∈ pm_tbl := pm_m (lw_in1 (List.mem_of_getElem? (i := 184) rfl)) rfl
set_option maxRecDepth 100000 in
theorem wm_226 : Cond.code yX9_keep cX9_keep 3 (some .int) ∈ pm_tbl := pm_m (lw_in1 (List.mem_of_getElem? (i := 185) rfl)) rfl
set_option maxRecDepth 100000 in
theorem wm_227 : Cond.methodLink RL 18 yX9_stalks ∈ pm_tbl := pm_m (lw_in1 (List.mem_of_getElem? (i := 186) rfl)) rfl
set_option maxRecDepth 100000 in
theorem wm_228 : Cond.instanceMethod yX9_stalks ∈ pm_tbl := pm_m (lw_in1 (List.mem_of_getElem? (i := 187) rfl)) rfl
set_option maxRecDepth 100000 in
theorem wm_229 : Cond.selects RX9 yX9_stalks yX9_stalks ∈ pm_tbl := pm_m (lw_in1 (List.mem_of_getElem? (i := 188) rfl)) rfl
set_option maxRecDepth 100000 in
theorem wm_230 : Cond.code yX9_stalks cX9_stalks 4 (some .int) ∈ pm_tbl := pm_m (lw_in1 (List.mem_of_getElem? (i := 189) rfl)) rfl
set_option maxRecDepth 100000 in
theorem wm_231 : Cond.methodLink RX9 89 yX9_isBundle ∈ pm_tbl := pm_m (lw_in1 (List.mem_of_getElem? (i := 190) rfl)) rfl
set_option maxRecDepth 100000 in
theorem wm_232 : Cond.static yX9_isBundle ∈ pm_tbl := pm_m (lw_in1 (List.mem_of_getElem? (i := 191) rfl)) rfl
set_option maxRecDepth 100000 in
theorem wm_233 : Cond.code yX9_isBundle cX9_isBundle 2 (some .boolean) ∈ pm_tbl := pm_m (lw_in1 (List.mem_of_getElem? (i := 192) rfl)) rfl
set_option maxRecDepth 100000 in
theorem wm_234 : Cond.classLink RX9 93 RX6 ∈ pm_tbl := pm_m (lw_in1 (List.mem_of_getElem? (i := 193) rfl)) rfl
set_option maxRecDepth 100000 in
theorem wm_235 : Cond.instantiable RX6 3 ∈ pm_tbl := pm_m (lw_in1 (List.mem_of_getElem? (i := 194) rfl)) rfl
set_option maxRecDepth 100000 in
theorem wm_236 : Cond.methodLink RX9 95 yX6_init ∈ pm_tbl := pm_m (lw_in1 (List.mem_of_getElem? (i := 195) rfl)) rfl
set_option maxRecDepth 100000 in
theorem wm_237 : Cond.instanceMethod yX6_init ∈ pm_tbl := pm_m (lw_in1 (List.mem_of_getElem? (i := 196) rfl)) rfl
set_option maxRecDepth 100000 in
theorem wm_238 : Cond.code yX6_init cX6_init 4 none ∈ pm_tbl := pm_m (lw_in1 (List.mem_of_getElem? (i := 197) rfl)) rfl
set_option maxRecDepth 100000 in
theorem wm_239 : Cond.methodLinkNest RX6 3 yX1_init RX9 ∈ pm_tbl := pm_m (lw_in1 (List.mem_of_getElem? (i := 198) rfl)) rfl
set_option maxRecDepth 100000 in
theorem wm_240 : Cond.fieldLink RX6 9 RX6 "bundle" "I" ∈ pm_tbl := pm_m (lw_in1 (List.mem_of_getElem? (i := 199) rfl)) rfl
set_option maxRecDepth 100000 in
theorem wm_241 : Cond.fieldLinkNest RX9 111 RX6 "bundle" "I" RX9 ∈ pm_tbl := pm_m (lw_in1 (List.mem_of_getElem? (i := 200) rfl)) rfl
set_option maxRecDepth 100000 in
theorem wm_242 : Cond.fieldLink RX6 15 RX6 "by" "I" ∈ pm_tbl := pm_m (lw_in1 (List.mem_of_getElem? (i := 201) rfl)) rfl
set_option maxRecDepth 100000 in
theorem wm_243 : Cond.fieldLink RX6 18 RX6 "fingers" "I" ∈ pm_tbl := pm_m (lw_in1 (List.mem_of_getElem? (i := 202) rfl)) rfl
set_option maxRecDepth 100000 in
theorem wm_251 : Cond.methodLink RL 23 yX9_thumb ∈ pm_tbl := pm_m (lw_in1 (List.mem_of_getElem? (i := 210) rfl)) rfl
set_option maxRecDepth 100000 in
theorem wm_252 : Cond.instanceMethod yX9_thumb ∈ pm_tbl := pm_m (lw_in1 (List.mem_of_getElem? (i := 211) rfl)) rfl
set_option maxRecDepth 100000 in
theorem wm_253 : Cond.selects RX9 yX9_thumb yX9_thumb ∈ pm_tbl := pm_m (lw_in1 (List.mem_of_getElem? (i := 212) rfl)) rfl
set_option maxRecDepth 100000 in
theorem wm_254 : Cond.code yX9_thumb cX9_thumb 6 (some .int) ∈ pm_tbl := pm_m (lw_in1 (List.mem_of_getElem? (i := 213) rfl)) rfl
set_option maxRecDepth 100000 in
theorem wm_255 : Cond.classLink RX9 98 RX7 ∈ pm_tbl := pm_m (lw_in1 (List.mem_of_getElem? (i := 214) rfl)) rfl
set_option maxRecDepth 100000 in
theorem wm_256 : Cond.instantiable RX7 5 ∈ pm_tbl := pm_m (lw_in1 (List.mem_of_getElem? (i := 215) rfl)) rfl
set_option maxRecDepth 100000 in
theorem wm_257 : Cond.methodLink RX9 100 yX7_init ∈ pm_tbl := pm_m (lw_in1 (List.mem_of_getElem? (i := 216) rfl)) rfl
set_option maxRecDepth 100000 in
theorem wm_258 : Cond.instanceMethod yX7_init ∈ pm_tbl := pm_m (lw_in1 (List.mem_of_getElem? (i := 217) rfl)) rfl
set_option maxRecDepth 100000 in
theorem wm_259 : Cond.code yX7_init cX7_init 6 none ∈ pm_tbl := pm_m (lw_in1 (List.mem_of_getElem? (i := 218) rfl)) rfl
set_option maxRecDepth 100000 in
theorem wm_260 : Cond.methodLink RX7 3 yX6_init ∈ pm_tbl := pm_m (lw_in1 (List.mem_of_getElem? (i := 219) rfl)) rfl
set_option maxRecDepth 100000 in
theorem wm_261 : Cond.fieldLink RX7 9 RX7 "lo" "I" ∈ pm_tbl := pm_m (lw_in1 (List.mem_of_getElem? (i := 220) rfl)) rfl
set_option maxRecDepth 100000 in
theorem wm_262 : Cond.fieldLink RX7 15 RX7 "hi" "I" ∈ pm_tbl := pm_m (lw_in1 (List.mem_of_getElem? (i := 221) rfl)) rfl
set_option maxRecDepth 100000 in
theorem wm_271 : Cond.methodLink RL 28 yX9_told ∈ pm_tbl := pm_m (lw_in1 (List.mem_of_getElem? (i := 230) rfl)) rfl
set_option maxRecDepth 100000 in
theorem wm_272 : Cond.instanceMethod yX9_told ∈ pm_tbl := pm_m (lw_in1 (List.mem_of_getElem? (i := 231) rfl)) rfl
set_option maxRecDepth 100000 in
theorem wm_273 : Cond.selects RX9 yX9_told yX9_told ∈ pm_tbl := pm_m (lw_in1 (List.mem_of_getElem? (i := 232) rfl)) rfl
set_option maxRecDepth 100000 in
theorem wm_274 : Cond.code yX9_told cX9_told 4 (some .int) ∈ pm_tbl := pm_m (lw_in1 (List.mem_of_getElem? (i := 233) rfl)) rfl
set_option maxRecDepth 100000 in
theorem wm_275 : Cond.methodLink RX9 103 yX9_casterAt ∈ pm_tbl := pm_m (lw_in1 (List.mem_of_getElem? (i := 234) rfl)) rfl
set_option maxRecDepth 100000 in
theorem wm_277 : Cond.instanceMethod yX9_casterAt ∈ pm_tbl := pm_m (lw_in1 (List.mem_of_getElem? (i := 236) rfl)) rfl
set_option maxRecDepth 100000 in
theorem wm_278 : Cond.code yX9_casterAt cX9_casterAt 2 (some (.object "StalkRoom$Caster")) ∈ pm_tbl := pm_m (lw_in1 (List.mem_of_getElem? (i := 237) rfl)) rfl
set_option maxRecDepth 100000 in
theorem wm_279 : Cond.methodLink RX9 107 yX1_tell ∈ pm_tbl := pm_m (lw_in1 (List.mem_of_getElem? (i := 238) rfl)) rfl
set_option maxRecDepth 100000 in
theorem wm_280 : Cond.instanceMethod yX1_tell ∈ pm_tbl := pm_m (lw_in1 (List.mem_of_getElem? (i := 239) rfl)) rfl
set_option maxRecDepth 100000 in
theorem wm_281 : Cond.selects RX1 yX1_tell yX1_tell ∈ pm_tbl := pm_m (lw_in2 (List.mem_of_getElem? (i := 0) rfl)) rfl
set_option maxRecDepth 100000 in
theorem wm_282 : Cond.sameMethod RX1 RX1 "tell" "(I)I" ∈ pm_tbl := pm_m (lw_in2 (List.mem_of_getElem? (i := 1) rfl)) rfl
set_option maxRecDepth 100000 in
theorem wm_283 : Cond.selects RX2 yX1_tell yX2_tell ∈ pm_tbl := pm_m (lw_in2 (List.mem_of_getElem? (i := 2) rfl)) rfl
set_option maxRecDepth 100000 in
theorem wm_284 : Cond.instanceMethod yX2_tell ∈ pm_tbl := pm_m (lw_in2 (List.mem_of_getElem? (i := 3) rfl)) rfl
set_option maxRecDepth 100000 in
theorem wm_285 : Cond.code yX2_tell cX2_tell 2 (some .int) ∈ pm_tbl := pm_m (lw_in2 (List.mem_of_getElem? (i := 4) rfl)) rfl
set_option maxRecDepth 100000 in
theorem wm_286 : Cond.selects RX6 yX1_tell yX6_tell ∈ pm_tbl := pm_m (lw_in2 (List.mem_of_getElem? (i := 5) rfl)) rfl
set_option maxRecDepth 100000 in
theorem wm_287 : Cond.instanceMethod yX6_tell ∈ pm_tbl := pm_m (lw_in2 (List.mem_of_getElem? (i := 6) rfl)) rfl
set_option maxRecDepth 100000 in
theorem wm_288 : Cond.code yX6_tell cX6_tell 2 (some .int) ∈ pm_tbl := pm_m (lw_in2 (List.mem_of_getElem? (i := 7) rfl)) rfl
set_option maxRecDepth 100000 in
theorem wm_289 : Cond.methodLink RX6 21 yX6_kind ∈ pm_tbl := pm_m (lw_in2 (List.mem_of_getElem? (i := 8) rfl)) rfl
set_option maxRecDepth 100000 in
theorem wm_290 : Cond.instanceMethod yX6_kind ∈ pm_tbl := pm_m (lw_in2 (List.mem_of_getElem? (i := 9) rfl)) rfl
set_option maxRecDepth 100000 in
theorem wm_291 : Cond.selects RX6 yX6_kind yX6_kind ∈ pm_tbl := pm_m (lw_in2 (List.mem_of_getElem? (i := 10) rfl)) rfl
set_option maxRecDepth 100000 in
theorem wm_292 : Cond.sameMethod RX6 RX6 "kind" "()I" ∈ pm_tbl := pm_m (lw_in2 (List.mem_of_getElem? (i := 11) rfl)) rfl
set_option maxRecDepth 100000 in
theorem wm_293 : Cond.selects RX7 yX6_kind yX7_kind ∈ pm_tbl := pm_m (lw_in2 (List.mem_of_getElem? (i := 12) rfl)) rfl
set_option maxRecDepth 100000 in
theorem wm_294 : Cond.instanceMethod yX7_kind ∈ pm_tbl := pm_m (lw_in2 (List.mem_of_getElem? (i := 13) rfl)) rfl
set_option maxRecDepth 100000 in
theorem wm_295 : Cond.code yX7_kind cX7_kind 1 (some .int) ∈ pm_tbl := pm_m (lw_in2 (List.mem_of_getElem? (i := 14) rfl)) rfl
set_option maxRecDepth 100000 in
theorem wm_296 : Cond.code yX6_kind cX6_kind 1 (some .int) ∈ pm_tbl := pm_m (lw_in2 (List.mem_of_getElem? (i := 15) rfl)) rfl
set_option maxRecDepth 100000 in
theorem wm_297 : Cond.selects RX7 yX1_tell yX6_tell ∈ pm_tbl := pm_m (lw_in2 (List.mem_of_getElem? (i := 16) rfl)) rfl
set_option maxRecDepth 100000 in
theorem wm_298 : Cond.code yX1_tell cX1_tell 2 (some .int) ∈ pm_tbl := pm_m (lw_in2 (List.mem_of_getElem? (i := 17) rfl)) rfl
set_option maxRecDepth 100000 in
theorem wm_299 : Cond.methodLink RL 33 yX9_mark ∈ pm_tbl := pm_m (lw_in2 (List.mem_of_getElem? (i := 18) rfl)) rfl
set_option maxRecDepth 100000 in
theorem wm_300 : Cond.instanceMethod yX9_mark ∈ pm_tbl := pm_m (lw_in2 (List.mem_of_getElem? (i := 19) rfl)) rfl
set_option maxRecDepth 100000 in
theorem wm_301 : Cond.selects RX9 yX9_mark yX9_mark ∈ pm_tbl := pm_m (lw_in2 (List.mem_of_getElem? (i := 20) rfl)) rfl
set_option maxRecDepth 100000 in
theorem wm_302 : Cond.code yX9_mark cX9_mark 5 (some .int) ∈ pm_tbl := pm_m (lw_in2 (List.mem_of_getElem? (i := 21) rfl)) rfl
set_option maxRecDepth 100000 in
theorem wm_303 : Cond.methodLink RX9 114 yX6_leftOf ∈ pm_tbl := pm_m (lw_in2 (List.mem_of_getElem? (i := 22) rfl)) rfl
set_option maxRecDepth 100000 in
theorem wm_304 : Cond.instanceMethod yX6_leftOf ∈ pm_tbl := pm_m (lw_in2 (List.mem_of_getElem? (i := 23) rfl)) rfl
set_option maxRecDepth 100000 in
theorem wm_305 : Cond.selects RX6 yX6_leftOf yX6_leftOf ∈ pm_tbl := pm_m (lw_in2 (List.mem_of_getElem? (i := 24) rfl)) rfl
set_option maxRecDepth 100000 in
theorem wm_307 : Cond.selects RX7 yX6_leftOf yX6_leftOf ∈ pm_tbl := pm_m (lw_in2 (List.mem_of_getElem? (i := 26) rfl)) rfl
set_option maxRecDepth 100000 in
theorem wm_308 : Cond.code yX6_leftOf cX6_leftOf 4 (some .int) ∈ pm_tbl := pm_m (lw_in2 (List.mem_of_getElem? (i := 27) rfl)) rfl
set_option maxRecDepth 100000 in
theorem wm_309 : Cond.methodLink RX6 35 yX6_rest ∈ pm_tbl := pm_m (lw_in2 (List.mem_of_getElem? (i := 28) rfl)) rfl
set_option maxRecDepth 100000 in
theorem wm_311 : Cond.instanceMethod yX6_rest ∈ pm_tbl := pm_m (lw_in2 (List.mem_of_getElem? (i := 30) rfl)) rfl
set_option maxRecDepth 100000 in
theorem wm_312 : Cond.code yX6_rest cX6_rest 3 (some .int) ∈ pm_tbl := pm_m (lw_in2 (List.mem_of_getElem? (i := 31) rfl)) rfl
set_option maxRecDepth 100000 in
theorem wm_313 : Cond.methodLink RX9 118 ⟨"StalkRoom$Thumb", "placesAtFirst", "()I"⟩ ∈ pm_tbl := pm_m (lw_in2 (List.mem_of_getElem? (i := 32) rfl)) rfl
set_option maxRecDepth 100000 in
theorem wm_314 : Cond.sameMethod RX7 RX6 "placesAtFirst" "()I" ∈ pm_tbl := pm_m (lw_in2 (List.mem_of_getElem? (i := 33) rfl)) rfl
set_option maxRecDepth 100000 in
theorem wm_316 : Cond.selects RX7 ⟨"StalkRoom$Thumb", "placesAtFirst", "()I"⟩ yX6_placesAtFirst ∈ pm_tbl := pm_m (lw_in2 (List.mem_of_getElem? (i := 35) rfl)) rfl
set_option maxRecDepth 100000 in
theorem wm_317 : Cond.instanceMethod yX6_placesAtFirst ∈ pm_tbl := pm_m (lw_in2 (List.mem_of_getElem? (i := 36) rfl)) rfl
set_option maxRecDepth 100000 in
theorem wm_318 : Cond.code yX6_placesAtFirst cX6_placesAtFirst 1 (some .int) ∈ pm_tbl := pm_m (lw_in2 (List.mem_of_getElem? (i := 37) rfl)) rfl
set_option maxRecDepth 100000 in
theorem wm_319 : Cond.methodLink RX6 32 yX6_placesOf ∈ pm_tbl := pm_m (lw_in2 (List.mem_of_getElem? (i := 38) rfl)) rfl
set_option maxRecDepth 100000 in
theorem wm_320 : Cond.instanceMethod yX6_placesOf ∈ pm_tbl := pm_m (lw_in2 (List.mem_of_getElem? (i := 39) rfl)) rfl
set_option maxRecDepth 100000 in
theorem wm_321 : Cond.selects RX6 yX6_placesOf yX6_placesOf ∈ pm_tbl := pm_m (lw_in2 (List.mem_of_getElem? (i := 40) rfl)) rfl
set_option maxRecDepth 100000 in
theorem wm_323 : Cond.selects RX7 yX6_placesOf yX6_placesOf ∈ pm_tbl := pm_m (lw_in2 (List.mem_of_getElem? (i := 42) rfl)) rfl
set_option maxRecDepth 100000 in
theorem wm_324 : Cond.code yX6_placesOf cX6_placesOf 2 (some .int) ∈ pm_tbl := pm_m (lw_in2 (List.mem_of_getElem? (i := 43) rfl)) rfl
set_option maxRecDepth 100000 in
theorem wm_325 : Cond.methodLink RX6 25 yX6_lastPlace ∈ pm_tbl := pm_m (lw_in2 (List.mem_of_getElem? (i := 44) rfl)) rfl
set_option maxRecDepth 100000 in
theorem wm_326 : Cond.instanceMethod yX6_lastPlace ∈ pm_tbl := pm_m (lw_in2 (List.mem_of_getElem? (i := 45) rfl)) rfl
set_option maxRecDepth 100000 in
theorem wm_327 : Cond.selects RX6 yX6_lastPlace yX6_lastPlace ∈ pm_tbl := pm_m (lw_in2 (List.mem_of_getElem? (i := 46) rfl)) rfl
set_option maxRecDepth 100000 in
theorem wm_328 : Cond.sameMethod RX6 RX6 "lastPlace" "(I)I" ∈ pm_tbl := pm_m (lw_in2 (List.mem_of_getElem? (i := 47) rfl)) rfl
set_option maxRecDepth 100000 in
theorem wm_329 : Cond.selects RX7 yX6_lastPlace yX7_lastPlace ∈ pm_tbl := pm_m (lw_in2 (List.mem_of_getElem? (i := 48) rfl)) rfl
set_option maxRecDepth 100000 in
theorem wm_330 : Cond.instanceMethod yX7_lastPlace ∈ pm_tbl := pm_m (lw_in2 (List.mem_of_getElem? (i := 49) rfl)) rfl
set_option maxRecDepth 100000 in
theorem wm_331 : Cond.code yX7_lastPlace cX7_lastPlace 2 (some .int) ∈ pm_tbl := pm_m (lw_in2 (List.mem_of_getElem? (i := 50) rfl)) rfl
set_option maxRecDepth 100000 in
theorem wm_332 : Cond.code yX6_lastPlace cX6_lastPlace 2 (some .int) ∈ pm_tbl := pm_m (lw_in2 (List.mem_of_getElem? (i := 51) rfl)) rfl
set_option maxRecDepth 100000 in
theorem wm_333 : Cond.methodLink RX6 29 yX6_firstPlace ∈ pm_tbl := pm_m (lw_in2 (List.mem_of_getElem? (i := 52) rfl)) rfl
set_option maxRecDepth 100000 in
theorem wm_334 : Cond.instanceMethod yX6_firstPlace ∈ pm_tbl := pm_m (lw_in2 (List.mem_of_getElem? (i := 53) rfl)) rfl
set_option maxRecDepth 100000 in
theorem wm_335 : Cond.selects RX6 yX6_firstPlace yX6_firstPlace ∈ pm_tbl := pm_m (lw_in2 (List.mem_of_getElem? (i := 54) rfl)) rfl
set_option maxRecDepth 100000 in
theorem wm_336 : Cond.sameMethod RX6 RX6 "firstPlace" "(I)I" ∈ pm_tbl := pm_m (lw_in2 (List.mem_of_getElem? (i := 55) rfl)) rfl
set_option maxRecDepth 100000 in
theorem wm_337 : Cond.selects RX7 yX6_firstPlace yX7_firstPlace ∈ pm_tbl := pm_m (lw_in2 (List.mem_of_getElem? (i := 56) rfl)) rfl
set_option maxRecDepth 100000 in
theorem wm_338 : Cond.instanceMethod yX7_firstPlace ∈ pm_tbl := pm_m (lw_in2 (List.mem_of_getElem? (i := 57) rfl)) rfl
set_option maxRecDepth 100000 in
theorem wm_339 : Cond.code yX7_firstPlace cX7_firstPlace 2 (some .int) ∈ pm_tbl := pm_m (lw_in2 (List.mem_of_getElem? (i := 58) rfl)) rfl
set_option maxRecDepth 100000 in
theorem wm_340 : Cond.code yX6_firstPlace cX6_firstPlace 2 (some .int) ∈ pm_tbl := pm_m (lw_in2 (List.mem_of_getElem? (i := 59) rfl)) rfl
set_option maxRecDepth 100000 in
theorem wm_341 : Cond.methodLink RX9 122 yX9_found ∈ pm_tbl := pm_m (lw_in2 (List.mem_of_getElem? (i := 60) rfl)) rfl
set_option maxRecDepth 100000 in
theorem wm_343 : Cond.instanceMethod yX9_found ∈ pm_tbl := pm_m (lw_in2 (List.mem_of_getElem? (i := 62) rfl)) rfl
set_option maxRecDepth 100000 in
theorem wm_344 : Cond.code yX9_found cX9_found 2 (some .int) ∈ pm_tbl := pm_m (lw_in2 (List.mem_of_getElem? (i := 63) rfl)) rfl
set_option maxRecDepth 100000 in
theorem wm_345 : Cond.methodLink RL 37 yX9_part ∈ pm_tbl := pm_m (lw_in2 (List.mem_of_getElem? (i := 64) rfl)) rfl
set_option maxRecDepth 100000 in
theorem wm_346 : Cond.instanceMethod yX9_part ∈ pm_tbl := pm_m (lw_in2 (List.mem_of_getElem? (i := 65) rfl)) rfl
set_option maxRecDepth 100000 in
theorem wm_347 : Cond.selects RX9 yX9_part yX9_part ∈ pm_tbl := pm_m (lw_in2 (List.mem_of_getElem? (i := 66) rfl)) rfl
set_option maxRecDepth 100000 in
theorem wm_348 : Cond.code yX9_part cX9_part 7 (some .int) ∈ pm_tbl := pm_m (lw_in2 (List.mem_of_getElem? (i := 67) rfl)) rfl
set_option maxRecDepth 100000 in
theorem wm_349 : Cond.methodLink RX9 125 yX9_asStalks ∈ pm_tbl := pm_m (lw_in2 (List.mem_of_getElem? (i := 68) rfl)) rfl
set_option maxRecDepth 100000 in
theorem wm_350 : Cond.static yX9_asStalks ∈ pm_tbl := pm_m (lw_in2 (List.mem_of_getElem? (i := 69) rfl)) rfl
set_option maxRecDepth 100000 in
theorem wm_351 : Cond.code yX9_asStalks cX9_asStalks 2 (some (.object "StalkRoom$Stalks")) ∈ pm_tbl := pm_m (lw_in2 (List.mem_of_getElem? (i := 70) rfl)) rfl
set_option maxRecDepth 100000 in
theorem wm_352 : Cond.methodLink RX9 129 yX6_partedAt ∈ pm_tbl := pm_m (lw_in2 (List.mem_of_getElem? (i := 71) rfl)) rfl
set_option maxRecDepth 100000 in
theorem wm_353 : Cond.instanceMethod yX6_partedAt ∈ pm_tbl := pm_m (lw_in2 (List.mem_of_getElem? (i := 72) rfl)) rfl
set_option maxRecDepth 100000 in
theorem wm_354 : Cond.selects RX6 yX6_partedAt yX6_partedAt ∈ pm_tbl := pm_m (lw_in2 (List.mem_of_getElem? (i := 73) rfl)) rfl
set_option maxRecDepth 100000 in
theorem wm_356 : Cond.selects RX7 yX6_partedAt yX6_partedAt ∈ pm_tbl := pm_m (lw_in2 (List.mem_of_getElem? (i := 75) rfl)) rfl
set_option maxRecDepth 100000 in
theorem wm_357 : Cond.code yX6_partedAt cX6_partedAt 3 (some .int) ∈ pm_tbl := pm_m (lw_in2 (List.mem_of_getElem? (i := 76) rfl)) rfl
set_option maxRecDepth 100000 in
theorem wm_358 : Cond.methodLink RX6 38 yX6_leftOf ∈ pm_tbl := pm_m (lw_in2 (List.mem_of_getElem? (i := 77) rfl)) rfl
set_option maxRecDepth 100000 in
theorem wm_359 : Cond.methodLink RL 42 yX9_line ∈ pm_tbl := pm_m (lw_in2 (List.mem_of_getElem? (i := 78) rfl)) rfl
set_option maxRecDepth 100000 in
theorem wm_360 : Cond.instanceMethod yX9_line ∈ pm_tbl := pm_m (lw_in2 (List.mem_of_getElem? (i := 79) rfl)) rfl
set_option maxRecDepth 100000 in
theorem wm_361 : Cond.selects RX9 yX9_line yX9_line ∈ pm_tbl := pm_m (lw_in2 (List.mem_of_getElem? (i := 80) rfl)) rfl
set_option maxRecDepth 100000 in
theorem wm_362 : Cond.code yX9_line cX9_line 10 (some .int) ∈ pm_tbl := pm_m (lw_in2 (List.mem_of_getElem? (i := 81) rfl)) rfl
set_option maxRecDepth 100000 in
theorem wm_363 : Cond.methodLink RX9 132 yX6_lineOf ∈ pm_tbl := pm_m (lw_in2 (List.mem_of_getElem? (i := 82) rfl)) rfl
set_option maxRecDepth 100000 in
theorem wm_364 : Cond.instanceMethod yX6_lineOf ∈ pm_tbl := pm_m (lw_in2 (List.mem_of_getElem? (i := 83) rfl)) rfl
set_option maxRecDepth 100000 in
theorem wm_365 : Cond.selects RX6 yX6_lineOf yX6_lineOf ∈ pm_tbl := pm_m (lw_in2 (List.mem_of_getElem? (i := 84) rfl)) rfl
set_option maxRecDepth 100000 in
theorem wm_367 : Cond.selects RX7 yX6_lineOf yX6_lineOf ∈ pm_tbl := pm_m (lw_in2 (List.mem_of_getElem? (i := 86) rfl)) rfl
set_option maxRecDepth 100000 in
theorem wm_368 : Cond.code yX6_lineOf cX6_lineOf 2 (some .int) ∈ pm_tbl := pm_m (lw_in2 (List.mem_of_getElem? (i := 87) rfl)) rfl
set_option maxRecDepth 100000 in
theorem wm_369 : Cond.methodLink RL 47 yX9_odds ∈ pm_tbl := pm_m (lw_in2 (List.mem_of_getElem? (i := 88) rfl)) rfl
set_option maxRecDepth 100000 in
theorem wm_370 : Cond.instanceMethod yX9_odds ∈ pm_tbl := pm_m (lw_in2 (List.mem_of_getElem? (i := 89) rfl)) rfl
set_option maxRecDepth 100000 in
theorem wm_371 : Cond.selects RX9 yX9_odds yX9_odds ∈ pm_tbl := pm_m (lw_in2 (List.mem_of_getElem? (i := 90) rfl)) rfl
set_option maxRecDepth 100000 in
theorem wm_372 : Cond.code yX9_odds cX9_odds 4 (some .int) ∈ pm_tbl := pm_m (lw_in2 (List.mem_of_getElem? (i := 91) rfl)) rfl
set_option maxRecDepth 100000 in
theorem wm_373 : Cond.methodLink RX9 135 yX1_weigh ∈ pm_tbl := pm_m (lw_in2 (List.mem_of_getElem? (i := 92) rfl)) rfl
set_option maxRecDepth 100000 in
theorem wm_374 : Cond.instanceMethod yX1_weigh ∈ pm_tbl := pm_m (lw_in2 (List.mem_of_getElem? (i := 93) rfl)) rfl
set_option maxRecDepth 100000 in
theorem wm_375 : Cond.selects RX1 yX1_weigh yX1_weigh ∈ pm_tbl := pm_m (lw_in2 (List.mem_of_getElem? (i := 94) rfl)) rfl
set_option maxRecDepth 100000 in
theorem wm_376 : Cond.sameMethod RX1 RX1 "weigh" "(LStalkRoom$Odds;)V" ∈ pm_tbl := pm_m (lw_in2 (List.mem_of_getElem? (i := 95) rfl)) rfl
set_option maxRecDepth 100000 in
theorem wm_377 : Cond.selects RX2 yX1_weigh yX2_weigh ∈ pm_tbl := pm_m (lw_in2 (List.mem_of_getElem? (i := 96) rfl)) rfl
set_option maxRecDepth 100000 in
theorem wm_378 : Cond.instanceMethod yX2_weigh ∈ pm_tbl := pm_m (lw_in2 (List.mem_of_getElem? (i := 97) rfl)) rfl
set_option maxRecDepth 100000 in
theorem wm_379 : Cond.code yX2_weigh cX2_weigh 2 none ∈ pm_tbl := pm_m (lw_in2 (List.mem_of_getElem? (i := 98) rfl)) rfl
set_option maxRecDepth 100000 in
theorem wm_380 : Cond.constantLong RX2 15 (8) ∈ pm_tbl := pm_m (lw_in2 (List.mem_of_getElem? (i := 99) rfl)) rfl
set_option maxRecDepth 100000 in
theorem wm_381 : Cond.methodLink RX2 17 yX4_begin ∈ pm_tbl := pm_m (lw_in2 (List.mem_of_getElem? (i := 100) rfl)) rfl
set_option maxRecDepth 100000 in
theorem wm_382 : Cond.instanceMethod yX4_begin ∈ pm_tbl := pm_m (lw_in2 (List.mem_of_getElem? (i := 101) rfl)) rfl
set_option maxRecDepth 100000 in
theorem wm_383 : Cond.selects RX4 yX4_begin yX4_begin ∈ pm_tbl := pm_m (lw_in2 (List.mem_of_getElem? (i := 102) rfl)) rfl
set_option maxRecDepth 100000 in
theorem wm_384 : Cond.code yX4_begin cX4_begin 3 none ∈ pm_tbl := pm_m (lw_in2 (List.mem_of_getElem? (i := 103) rfl)) rfl
set_option maxRecDepth 100000 in
theorem wm_385 : Cond.methodLink RX4 25 yJ7_fill_d0a16 ∈ pm_tbl := pm_m (lw_in2 (List.mem_of_getElem? (i := 104) rfl)) rfl
set_option maxRecDepth 100000 in
theorem wm_386 : Cond.static yJ7_fill_d0a16 ∈ pm_tbl := pm_m (lw_in2 (List.mem_of_getElem? (i := 105) rfl)) rfl
set_option maxRecDepth 100000 in
theorem wm_387 : Cond.code yJ7_fill_d0a16 cJ7_fill_d0a16 5 none ∈ pm_tbl := pm_m (lw_in2 (List.mem_of_getElem? (i := 106) rfl)) rfl
set_option maxRecDepth 100000 in
theorem wm_388 : Cond.constantLong RX2 27 (3) ∈ pm_tbl := pm_m (lw_in2 (List.mem_of_getElem? (i := 107) rfl)) rfl
set_option maxRecDepth 100000 in
theorem wm_389 : Cond.selects RX6 yX1_weigh yX6_weigh ∈ pm_tbl := pm_m (lw_in2 (List.mem_of_getElem? (i := 108) rfl)) rfl
set_option maxRecDepth 100000 in
theorem wm_390 : Cond.instanceMethod yX6_weigh ∈ pm_tbl := pm_m (lw_in2 (List.mem_of_getElem? (i := 109) rfl)) rfl
set_option maxRecDepth 100000 in
theorem wm_391 : Cond.code yX6_weigh cX6_weigh 2 none ∈ pm_tbl := pm_m (lw_in2 (List.mem_of_getElem? (i := 110) rfl)) rfl
set_option maxRecDepth 100000 in
theorem wm_392 : Cond.methodLink RX6 50 yX6_weighBundle ∈ pm_tbl := pm_m (lw_in2 (List.mem_of_getElem? (i := 111) rfl)) rfl
set_option maxRecDepth 100000 in
theorem wm_393 : Cond.instanceMethod yX6_weighBundle ∈ pm_tbl := pm_m (lw_in2 (List.mem_of_getElem? (i := 112) rfl)) rfl
set_option maxRecDepth 100000 in
theorem wm_394 : Cond.selects RX6 yX6_weighBundle yX6_weighBundle ∈ pm_tbl := pm_m (lw_in2 (List.mem_of_getElem? (i := 113) rfl)) rfl
set_option maxRecDepth 100000 in
theorem wm_396 : Cond.selects RX7 yX6_weighBundle yX6_weighBundle ∈ pm_tbl := pm_m (lw_in2 (List.mem_of_getElem? (i := 115) rfl)) rfl
set_option maxRecDepth 100000 in
theorem wm_397 : Cond.code yX6_weighBundle cX6_weighBundle 5 none ∈ pm_tbl := pm_m (lw_in2 (List.mem_of_getElem? (i := 116) rfl)) rfl
set_option maxRecDepth 100000 in
theorem wm_398 : Cond.methodLink RX6 54 yX4_beginBundle ∈ pm_tbl := pm_m (lw_in2 (List.mem_of_getElem? (i := 117) rfl)) rfl
set_option maxRecDepth 100000 in
theorem wm_399 : Cond.instanceMethod yX4_beginBundle ∈ pm_tbl := pm_m (lw_in2 (List.mem_of_getElem? (i := 118) rfl)) rfl
set_option maxRecDepth 100000 in
theorem wm_400 : Cond.selects RX4 yX4_beginBundle yX4_beginBundle ∈ pm_tbl := pm_m (lw_in2 (List.mem_of_getElem? (i := 119) rfl)) rfl
set_option maxRecDepth 100000 in
theorem wm_401 : Cond.code yX4_beginBundle cX4_beginBundle 2 none ∈ pm_tbl := pm_m (lw_in2 (List.mem_of_getElem? (i := 120) rfl)) rfl
set_option maxRecDepth 100000 in
theorem wm_402 : Cond.methodLink RX4 31 yX4_begin ∈ pm_tbl := pm_m (lw_in2 (List.mem_of_getElem? (i := 121) rfl)) rfl
set_option maxRecDepth 100000 in
theorem wm_403 : Cond.methodLink RX6 60 yX6_partHeaps ∈ pm_tbl := pm_m (lw_in2 (List.mem_of_getElem? (i := 122) rfl)) rfl
set_option maxRecDepth 100000 in
theorem wm_405 : Cond.instanceMethod yX6_partHeaps ∈ pm_tbl := pm_m (lw_in2 (List.mem_of_getElem? (i := 124) rfl)) rfl
set_option maxRecDepth 100000 in
theorem wm_406 : Cond.code yX6_partHeaps cX6_partHeaps 5 none ∈ pm_tbl := pm_m (lw_in2 (List.mem_of_getElem? (i := 125) rfl)) rfl
set_option maxRecDepth 100000 in
theorem wm_407 : Cond.methodLink RX6 71 yX6_sharesOf ∈ pm_tbl := pm_m (lw_in2 (List.mem_of_getElem? (i := 126) rfl)) rfl
set_option maxRecDepth 100000 in
theorem wm_409 : Cond.instanceMethod yX6_sharesOf ∈ pm_tbl := pm_m (lw_in2 (List.mem_of_getElem? (i := 128) rfl)) rfl
set_option maxRecDepth 100000 in
theorem wm_410 : Cond.code yX6_sharesOf cX6_sharesOf 5 (some .long) ∈ pm_tbl := pm_m (lw_in2 (List.mem_of_getElem? (i := 129) rfl)) rfl
set_option maxRecDepth 100000 in
theorem wm_411 : Cond.methodLink RX6 82 yJ7_fill_d0a16 ∈ pm_tbl := pm_m (lw_in2 (List.mem_of_getElem? (i := 130) rfl)) rfl
set_option maxRecDepth 100000 in
theorem wm_412 : Cond.methodLink RX6 88 yX6_partHeap ∈ pm_tbl := pm_m (lw_in2 (List.mem_of_getElem? (i := 131) rfl)) rfl
set_option maxRecDepth 100000 in
theorem wm_414 : Cond.instanceMethod yX6_partHeap ∈ pm_tbl := pm_m (lw_in2 (List.mem_of_getElem? (i := 133) rfl)) rfl
set_option maxRecDepth 100000 in
theorem wm_415 : Cond.code yX6_partHeap cX6_partHeap 11 none ∈ pm_tbl := pm_m (lw_in2 (List.mem_of_getElem? (i := 134) rfl)) rfl
set_option maxRecDepth 100000 in
theorem wm_416 : Cond.methodLink RX6 92 ⟨"java/lang/System", "arraycopy", "(Ljava/lang/Object;ILjava/lang/Object;II)V"⟩ ∈ pm_tbl := pm_m (lw_in2 (List.mem_of_getElem? (i := 135) rfl)) rfl
set_option maxRecDepth 100000 in
theorem wm_417 : Cond.static ⟨"java/lang/System", "arraycopy", "(Ljava/lang/Object;ILjava/lang/Object;II)V"⟩ ∈ pm_tbl := pm_m (lw_in2 (List.mem_of_getElem? (i := 136) rfl)) rfl
set_option maxRecDepth 100000 in
theorem wm_418 : Cond.native ⟨"java/lang/System", "arraycopy", "(Ljava/lang/Object;ILjava/lang/Object;II)V"⟩ ∈ pm_tbl := pm_m (lw_in2 (List.mem_of_getElem? (i := 137) rfl)) rfl
set_option maxRecDepth 100000 in
theorem wm_419 : Cond.methodLink RX6 47 yX6_lineOf ∈ pm_tbl := pm_m (lw_in2 (List.mem_of_getElem? (i := 138) rfl)) rfl
set_option maxRecDepth 100000 in
theorem wm_420 : Cond.selects RX7 yX1_weigh yX6_weigh ∈ pm_tbl := pm_m (lw_in2 (List.mem_of_getElem? (i := 139) rfl)) rfl
set_option maxRecDepth 100000 in
theorem wm_421 : Cond.code yX1_weigh cX1_weigh 2 none ∈ pm_tbl := pm_m (lw_in2 (List.mem_of_getElem? (i := 140) rfl)) rfl
set_option maxRecDepth 100000 in
theorem wm_422 : Cond.methodLink RX1 9 yX4_begin ∈ pm_tbl := pm_m (lw_in2 (List.mem_of_getElem? (i := 141) rfl)) rfl
set_option maxRecDepth 100000 in
theorem wm_423 : Cond.methodLink RX9 146 yX9_tellFraction ∈ pm_tbl := pm_m (lw_in2 (List.mem_of_getElem? (i := 142) rfl)) rfl
set_option maxRecDepth 100000 in
theorem wm_425 : Cond.instanceMethod yX9_tellFraction ∈ pm_tbl := pm_m (lw_in2 (List.mem_of_getElem? (i := 144) rfl)) rfl
set_option maxRecDepth 100000 in
theorem wm_426 : Cond.code yX9_tellFraction cX9_tellFraction 7 none ∈ pm_tbl := pm_m (lw_in2 (List.mem_of_getElem? (i := 145) rfl)) rfl
set_option maxRecDepth 100000 in
theorem wm_427 : Cond.methodLink RX9 268 yX9_commonDivisor ∈ pm_tbl := pm_m (lw_in2 (List.mem_of_getElem? (i := 146) rfl)) rfl
set_option maxRecDepth 100000 in
theorem wm_428 : Cond.static yX9_commonDivisor ∈ pm_tbl := pm_m (lw_in2 (List.mem_of_getElem? (i := 147) rfl)) rfl
set_option maxRecDepth 100000 in
theorem wm_429 : Cond.code yX9_commonDivisor cX9_commonDivisor 7 (some .long) ∈ pm_tbl := pm_m (lw_in2 (List.mem_of_getElem? (i := 148) rfl)) rfl
set_option maxRecDepth 100000 in
theorem wm_430 : Cond.methodLink RL 51 yX9_mean ∈ pm_tbl := pm_m (lw_in2 (List.mem_of_getElem? (i := 149) rfl)) rfl
set_option maxRecDepth 100000 in
theorem wm_431 : Cond.instanceMethod yX9_mean ∈ pm_tbl := pm_m (lw_in2 (List.mem_of_getElem? (i := 150) rfl)) rfl
set_option maxRecDepth 100000 in
theorem wm_432 : Cond.selects RX9 yX9_mean yX9_mean ∈ pm_tbl := pm_m (lw_in2 (List.mem_of_getElem? (i := 151) rfl)) rfl
set_option maxRecDepth 100000 in
theorem wm_433 : Cond.code yX9_mean cX9_mean 6 (some .int) ∈ pm_tbl := pm_m (lw_in2 (List.mem_of_getElem? (i := 152) rfl)) rfl
set_option maxRecDepth 100000 in
theorem wm_434 : Cond.methodLink RL 58 yX9_drawn ∈ pm_tbl := pm_m (lw_in2 (List.mem_of_getElem? (i := 153) rfl)) rfl
set_option maxRecDepth 100000 in
theorem wm_435 : Cond.instanceMethod yX9_drawn ∈ pm_tbl := pm_m (lw_in2 (List.mem_of_getElem? (i := 154) rfl)) rfl
set_option maxRecDepth 100000 in
theorem wm_436 : Cond.selects RX9 yX9_drawn yX9_drawn ∈ pm_tbl := pm_m (lw_in2 (List.mem_of_getElem? (i := 155) rfl)) rfl
set_option maxRecDepth 100000 in
theorem wm_437 : Cond.code yX9_drawn cX9_drawn 5 (some .int) ∈ pm_tbl := pm_m (lw_in2 (List.mem_of_getElem? (i := 156) rfl)) rfl
set_option maxRecDepth 100000 in
theorem wm_438 : Cond.methodLink RX9 150 yX5_begin ∈ pm_tbl := pm_m (lw_in2 (List.mem_of_getElem? (i := 157) rfl)) rfl
set_option maxRecDepth 100000 in
theorem wm_439 : Cond.instanceMethod yX5_begin ∈ pm_tbl := pm_m (lw_in2 (List.mem_of_getElem? (i := 158) rfl)) rfl
set_option maxRecDepth 100000 in
theorem wm_440 : Cond.selects RX5 yX5_begin yX5_begin ∈ pm_tbl := pm_m (lw_in2 (List.mem_of_getElem? (i := 159) rfl)) rfl
set_option maxRecDepth 100000 in
theorem wm_441 : Cond.code yX5_begin cX5_begin 3 none ∈ pm_tbl := pm_m (lw_in2 (List.mem_of_getElem? (i := 160) rfl)) rfl
set_option maxRecDepth 100000 in
theorem wm_442 : Cond.methodLink RX9 154 yX1_castLine ∈ pm_tbl := pm_m (lw_in2 (List.mem_of_getElem? (i := 161) rfl)) rfl
set_option maxRecDepth 100000 in
theorem wm_443 : Cond.instanceMethod yX1_castLine ∈ pm_tbl := pm_m (lw_in2 (List.mem_of_getElem? (i := 162) rfl)) rfl
set_option maxRecDepth 100000 in
theorem wm_444 : Cond.selects RX1 yX1_castLine yX1_castLine ∈ pm_tbl := pm_m (lw_in2 (List.mem_of_getElem? (i := 163) rfl)) rfl
set_option maxRecDepth 100000 in
theorem wm_445 : Cond.sameMethod RX1 RX1 "castLine" "(LStalkRoom$Seed;)I" ∈ pm_tbl := pm_m (lw_in2 (List.mem_of_getElem? (i := 164) rfl)) rfl
set_option maxRecDepth 100000 in
theorem wm_446 : Cond.selects RX2 yX1_castLine yX2_castLine ∈ pm_tbl := pm_m (lw_in2 (List.mem_of_getElem? (i := 165) rfl)) rfl
set_option maxRecDepth 100000 in
theorem wm_447 : Cond.instanceMethod yX2_castLine ∈ pm_tbl := pm_m (lw_in2 (List.mem_of_getElem? (i := 166) rfl)) rfl
set_option maxRecDepth 100000 in
theorem wm_448 : Cond.code yX2_castLine cX2_castLine 3 (some .int) ∈ pm_tbl := pm_m (lw_in2 (List.mem_of_getElem? (i := 167) rfl)) rfl
set_option maxRecDepth 100000 in
theorem wm_449 : Cond.methodLink RX2 9 yX5_nextBelow ∈ pm_tbl := pm_m (lw_in2 (List.mem_of_getElem? (i := 168) rfl)) rfl
set_option maxRecDepth 100000 in
theorem wm_450 : Cond.instanceMethod yX5_nextBelow ∈ pm_tbl := pm_m (lw_in2 (List.mem_of_getElem? (i := 169) rfl)) rfl
set_option maxRecDepth 100000 in
theorem wm_451 : Cond.selects RX5 yX5_nextBelow yX5_nextBelow ∈ pm_tbl := pm_m (lw_in2 (List.mem_of_getElem? (i := 170) rfl)) rfl
set_option maxRecDepth 100000 in
theorem wm_452 : Cond.code yX5_nextBelow cX5_nextBelow 2 (some .int) ∈ pm_tbl := pm_m (lw_in2 (List.mem_of_getElem? (i := 171) rfl)) rfl
set_option maxRecDepth 100000 in
theorem wm_453 : Cond.constantLong RX5 13 (6364136223846793005) ∈ pm_tbl := pm_m (lw_in2 (List.mem_of_getElem? (i := 172) rfl)) rfl
set_option maxRecDepth 100000 in
theorem wm_454 : Cond.constantLong RX5 15 (1442695040888963407) ∈ pm_tbl := pm_m (lw_in2 (List.mem_of_getElem? (i := 173) rfl)) rfl
set_option maxRecDepth 100000 in
theorem wm_455 : Cond.selects RX6 yX1_castLine yX6_castLine ∈ pm_tbl := pm_m (lw_in2 (List.mem_of_getElem? (i := 174) rfl)) rfl
set_option maxRecDepth 100000 in
theorem wm_456 : Cond.instanceMethod yX6_castLine ∈ pm_tbl := pm_m (lw_in2 (List.mem_of_getElem? (i := 175) rfl)) rfl
set_option maxRecDepth 100000 in
theorem wm_457 : Cond.code yX6_castLine cX6_castLine 4 (some .int) ∈ pm_tbl := pm_m (lw_in2 (List.mem_of_getElem? (i := 176) rfl)) rfl
set_option maxRecDepth 100000 in
theorem wm_458 : Cond.methodLink RX6 42 yX5_nextBelow ∈ pm_tbl := pm_m (lw_in2 (List.mem_of_getElem? (i := 177) rfl)) rfl
set_option maxRecDepth 100000 in
theorem wm_459 : Cond.selects RX7 yX1_castLine yX6_castLine ∈ pm_tbl := pm_m (lw_in2 (List.mem_of_getElem? (i := 178) rfl)) rfl
set_option maxRecDepth 100000 in
theorem wm_460 : Cond.code yX1_castLine cX1_castLine 2 (some .int) ∈ pm_tbl := pm_m (lw_in2 (List.mem_of_getElem? (i := 179) rfl)) rfl
set_option maxRecDepth 100000 in
theorem wm_461 : Cond.methodLink RL 63 yX9_set ∈ pm_tbl := pm_m (lw_in2 (List.mem_of_getElem? (i := 180) rfl)) rfl
set_option maxRecDepth 100000 in
theorem wm_462 : Cond.instanceMethod yX9_set ∈ pm_tbl := pm_m (lw_in2 (List.mem_of_getElem? (i := 181) rfl)) rfl
set_option maxRecDepth 100000 in
theorem wm_463 : Cond.selects RX9 yX9_set yX9_set ∈ pm_tbl := pm_m (lw_in2 (List.mem_of_getElem? (i := 182) rfl)) rfl
set_option maxRecDepth 100000 in
theorem wm_464 : Cond.code yX9_set cX9_set 6 (some .int) ∈ pm_tbl := pm_m (lw_in2 (List.mem_of_getElem? (i := 183) rfl)) rfl
set_option maxRecDepth 100000 in
theorem wm_465 : Cond.methodLink RX9 158 yX9_figureAt ∈ pm_tbl := pm_m (lw_in2 (List.mem_of_getElem? (i := 184) rfl)) rfl
set_option maxRecDepth 100000 in
theorem wm_467 : Cond.instanceMethod yX9_figureAt ∈ pm_tbl := pm_m (lw_in2 (List.mem_of_getElem? (i := 186) rfl)) rfl
set_option maxRecDepth 100000 in
theorem wm_468 : Cond.code yX9_figureAt cX9_figureAt 2 (some (.object "StalkRoom$Figure")) ∈ pm_tbl := pm_m (lw_in2 (List.mem_of_getElem? (i := 187) rfl)) rfl
set_option maxRecDepth 100000 in
theorem wm_469 : Cond.methodLink RL 67 yX9_get ∈ pm_tbl := pm_m (lw_in2 (List.mem_of_getElem? (i := 188) rfl)) rfl
set_option maxRecDepth 100000 in
theorem wm_470 : Cond.instanceMethod yX9_get ∈ pm_tbl := pm_m (lw_in2 (List.mem_of_getElem? (i := 189) rfl)) rfl
set_option maxRecDepth 100000 in
theorem wm_471 : Cond.selects RX9 yX9_get yX9_get ∈ pm_tbl := pm_m (lw_in2 (List.mem_of_getElem? (i := 190) rfl)) rfl
set_option maxRecDepth 100000 in
theorem wm_472 : Cond.code yX9_get cX9_get 4 (some .int) ∈ pm_tbl := pm_m (lw_in2 (List.mem_of_getElem? (i := 191) rfl)) rfl
set_option maxRecDepth 100000 in
theorem wm_473 : Cond.methodLink RL 71 yX9_draw ∈ pm_tbl := pm_m (lw_in2 (List.mem_of_getElem? (i := 192) rfl)) rfl
set_option maxRecDepth 100000 in
theorem wm_474 : Cond.instanceMethod yX9_draw ∈ pm_tbl := pm_m (lw_in2 (List.mem_of_getElem? (i := 193) rfl)) rfl
set_option maxRecDepth 100000 in
theorem wm_475 : Cond.selects RX9 yX9_draw yX9_draw ∈ pm_tbl := pm_m (lw_in2 (List.mem_of_getElem? (i := 194) rfl)) rfl
set_option maxRecDepth 100000 in
theorem wm_476 : Cond.code yX9_draw cX9_draw 7 (some .int) ∈ pm_tbl := pm_m (lw_in2 (List.mem_of_getElem? (i := 195) rfl)) rfl
set_option maxRecDepth 100000 in
theorem wm_477 : Cond.methodLink RX9 165 yX3_castBy ∈ pm_tbl := pm_m (lw_in2 (List.mem_of_getElem? (i := 196) rfl)) rfl
set_option maxRecDepth 100000 in
theorem wm_478 : Cond.instanceMethod yX3_castBy ∈ pm_tbl := pm_m (lw_in2 (List.mem_of_getElem? (i := 197) rfl)) rfl
set_option maxRecDepth 100000 in
theorem wm_479 : Cond.selects RX3 yX3_castBy yX3_castBy ∈ pm_tbl := pm_m (lw_in2 (List.mem_of_getElem? (i := 198) rfl)) rfl
set_option maxRecDepth 100000 in
theorem wm_480 : Cond.code yX3_castBy cX3_castBy 5 (some .boolean) ∈ pm_tbl := pm_m (lw_in2 (List.mem_of_getElem? (i := 199) rfl)) rfl
set_option maxRecDepth 100000 in
theorem wm_481 : Cond.methodLink RX3 31 yX1_castLine ∈ pm_tbl := pm_m (lw_in2 (List.mem_of_getElem? (i := 200) rfl)) rfl
set_option maxRecDepth 100000 in
theorem wm_482 : Cond.methodLink RX9 169 yX3_become ∈ pm_tbl := pm_m (lw_in2 (List.mem_of_getElem? (i := 201) rfl)) rfl
set_option maxRecDepth 100000 in
theorem wm_483 : Cond.instanceMethod yX3_become ∈ pm_tbl := pm_m (lw_in2 (List.mem_of_getElem? (i := 202) rfl)) rfl
set_option maxRecDepth 100000 in
theorem wm_484 : Cond.selects RX3 yX3_become yX3_become ∈ pm_tbl := pm_m (lw_in2 (List.mem_of_getElem? (i := 203) rfl)) rfl
set_option maxRecDepth 100000 in
theorem wm_485 : Cond.code yX3_become cX3_become 2 none ∈ pm_tbl := pm_m (lw_in2 (List.mem_of_getElem? (i := 204) rfl)) rfl
set_option maxRecDepth 100000 in
theorem wm_486 : Cond.methodLink RX3 25 ⟨"java/lang/System", "arraycopy", "(Ljava/lang/Object;ILjava/lang/Object;II)V"⟩ ∈ pm_tbl := pm_m (lw_in2 (List.mem_of_getElem? (i := 205) rfl)) rfl
set_option maxRecDepth 100000 in
theorem wm_487 : Cond.methodLink RX9 173 yX3_oldLines ∈ pm_tbl := pm_m (lw_in2 (List.mem_of_getElem? (i := 206) rfl)) rfl
set_option maxRecDepth 100000 in
theorem wm_488 : Cond.instanceMethod yX3_oldLines ∈ pm_tbl := pm_m (lw_in2 (List.mem_of_getElem? (i := 207) rfl)) rfl
set_option maxRecDepth 100000 in
theorem wm_489 : Cond.selects RX3 yX3_oldLines yX3_oldLines ∈ pm_tbl := pm_m (lw_in2 (List.mem_of_getElem? (i := 208) rfl)) rfl
set_option maxRecDepth 100000 in
theorem wm_490 : Cond.code yX3_oldLines cX3_oldLines 3 (some .int) ∈ pm_tbl := pm_m (lw_in2 (List.mem_of_getElem? (i := 209) rfl)) rfl
set_option maxRecDepth 100000 in
theorem wm_491 : Cond.methodLinkNest RX3 21 yX9_isOld RX9 ∈ pm_tbl := pm_m (lw_in2 (List.mem_of_getElem? (i := 210) rfl)) rfl
set_option maxRecDepth 100000 in
theorem wm_492 : Cond.static yX9_isOld ∈ pm_tbl := pm_m (lw_in2 (List.mem_of_getElem? (i := 211) rfl)) rfl
set_option maxRecDepth 100000 in
theorem wm_493 : Cond.code yX9_isOld cX9_isOld 1 (some .boolean) ∈ pm_tbl := pm_m (lw_in2 (List.mem_of_getElem? (i := 212) rfl)) rfl
set_option maxRecDepth 100000 in
theorem wm_494 : Cond.methodLink RL 76 yX9_number ∈ pm_tbl := pm_m (lw_in2 (List.mem_of_getElem? (i := 213) rfl)) rfl
set_option maxRecDepth 100000 in
theorem wm_495 : Cond.instanceMethod yX9_number ∈ pm_tbl := pm_m (lw_in2 (List.mem_of_getElem? (i := 214) rfl)) rfl
set_option maxRecDepth 100000 in
theorem wm_496 : Cond.selects RX9 yX9_number yX9_number ∈ pm_tbl := pm_m (lw_in2 (List.mem_of_getElem? (i := 215) rfl)) rfl
set_option maxRecDepth 100000 in
theorem wm_497 : Cond.code yX9_number cX9_number 3 (some .int) ∈ pm_tbl := pm_m (lw_in2 (List.mem_of_getElem? (i := 216) rfl)) rfl
set_option maxRecDepth 100000 in
theorem wm_498 : Cond.methodLink RX9 176 yX3_bits ∈ pm_tbl := pm_m (lw_in2 (List.mem_of_getElem? (i := 217) rfl)) rfl
set_option maxRecDepth 100000 in
theorem wm_499 : Cond.instanceMethod yX3_bits ∈ pm_tbl := pm_m (lw_in2 (List.mem_of_getElem? (i := 218) rfl)) rfl
set_option maxRecDepth 100000 in
theorem wm_500 : Cond.selects RX3 yX3_bits yX3_bits ∈ pm_tbl := pm_m (lw_in2 (List.mem_of_getElem? (i := 219) rfl)) rfl
set_option maxRecDepth 100000 in
theorem wm_501 : Cond.code yX3_bits cX3_bits 3 (some .int) ∈ pm_tbl := pm_m (lw_in2 (List.mem_of_getElem? (i := 220) rfl)) rfl
set_option maxRecDepth 100000 in
theorem wm_502 : Cond.methodLink RL 80 yX9_act ∈ pm_tbl := pm_m (lw_in2 (List.mem_of_getElem? (i := 221) rfl)) rfl
set_option maxRecDepth 100000 in
theorem wm_503 : Cond.instanceMethod yX9_act ∈ pm_tbl := pm_m (lw_in2 (List.mem_of_getElem? (i := 222) rfl)) rfl
set_option maxRecDepth 100000 in
theorem wm_504 : Cond.selects RX9 yX9_act yX9_act ∈ pm_tbl := pm_m (lw_in2 (List.mem_of_getElem? (i := 223) rfl)) rfl
set_option maxRecDepth 100000 in
theorem wm_505 : Cond.code yX9_act cX9_act 6 (some .int) ∈ pm_tbl := pm_m (lw_in2 (List.mem_of_getElem? (i := 224) rfl)) rfl
set_option maxRecDepth 100000 in
theorem wm_506 : Cond.methodLink RX9 179 yX3_becomeAfter ∈ pm_tbl := pm_m (lw_in2 (List.mem_of_getElem? (i := 225) rfl)) rfl
set_option maxRecDepth 100000 in
theorem wm_507 : Cond.instanceMethod yX3_becomeAfter ∈ pm_tbl := pm_m (lw_in2 (List.mem_of_getElem? (i := 226) rfl)) rfl
set_option maxRecDepth 100000 in
theorem wm_508 : Cond.selects RX3 yX3_becomeAfter yX3_becomeAfter ∈ pm_tbl := pm_m (lw_in2 (List.mem_of_getElem? (i := 227) rfl)) rfl
set_option maxRecDepth 100000 in
theorem wm_509 : Cond.code yX3_becomeAfter cX3_becomeAfter 4 none ∈ pm_tbl := pm_m (lw_in2 (List.mem_of_getElem? (i := 228) rfl)) rfl
set_option maxRecDepth 100000 in
theorem wm_510 : Cond.methodLink RX3 37 yX3_changed ∈ pm_tbl := pm_m (lw_in2 (List.mem_of_getElem? (i := 229) rfl)) rfl
set_option maxRecDepth 100000 in
theorem wm_511 : Cond.static yX3_changed ∈ pm_tbl := pm_m (lw_in2 (List.mem_of_getElem? (i := 230) rfl)) rfl
set_option maxRecDepth 100000 in
theorem wm_512 : Cond.code yX3_changed cX3_changed 1 (some .int) ∈ pm_tbl := pm_m (lw_in2 (List.mem_of_getElem? (i := 231) rfl)) rfl
set_option maxRecDepth 100000 in
theorem wm_513 : Cond.methodLink RL 84 yX9_way ∈ pm_tbl := pm_m (lw_in2 (List.mem_of_getElem? (i := 232) rfl)) rfl
set_option maxRecDepth 100000 in
theorem wm_514 : Cond.instanceMethod yX9_way ∈ pm_tbl := pm_m (lw_in2 (List.mem_of_getElem? (i := 233) rfl)) rfl
set_option maxRecDepth 100000 in
theorem wm_515 : Cond.selects RX9 yX9_way yX9_way ∈ pm_tbl := pm_m (lw_in2 (List.mem_of_getElem? (i := 234) rfl)) rfl
set_option maxRecDepth 100000 in
theorem wm_516 : Cond.code yX9_way cX9_way 4 (some .int) ∈ pm_tbl := pm_m (lw_in2 (List.mem_of_getElem? (i := 235) rfl)) rfl
set_option maxRecDepth 100000 in
theorem wm_517 : Cond.methodLink RX9 183 yX9_isNumber ∈ pm_tbl := pm_m (lw_in2 (List.mem_of_getElem? (i := 236) rfl)) rfl
set_option maxRecDepth 100000 in
theorem wm_518 : Cond.static yX9_isNumber ∈ pm_tbl := pm_m (lw_in2 (List.mem_of_getElem? (i := 237) rfl)) rfl
set_option maxRecDepth 100000 in
theorem wm_519 : Cond.code yX9_isNumber cX9_isNumber 1 (some .boolean) ∈ pm_tbl := pm_m (lw_in2 (List.mem_of_getElem? (i := 238) rfl)) rfl
set_option maxRecDepth 100000 in
theorem wm_520 : Cond.methodLink RX9 187 yX8_find ∈ pm_tbl := pm_m (lw_in2 (List.mem_of_getElem? (i := 239) rfl)) rfl
set_option maxRecDepth 100000 in
theorem wm_521 : Cond.instanceMethod yX8_find ∈ pm_tbl := pm_m (lw_in3 (List.mem_of_getElem? (i := 0) rfl)) rfl
set_option maxRecDepth 100000 in
theorem wm_522 : Cond.selects RX8 yX8_find yX8_find ∈ pm_tbl := pm_m (lw_in3 (List.mem_of_getElem? (i := 1) rfl)) rfl
set_option maxRecDepth 100000 in
theorem wm_523 : Cond.code yX8_find cX8_find 5 (some .int) ∈ pm_tbl := pm_m (lw_in3 (List.mem_of_getElem? (i := 2) rfl)) rfl
set_option maxRecDepth 100000 in
theorem wm_524 : Cond.methodLink RX8 28 yX8_meetAll ∈ pm_tbl := pm_m (lw_in3 (List.mem_of_getElem? (i := 3) rfl)) rfl
set_option maxRecDepth 100000 in
theorem wm_526 : Cond.instanceMethod yX8_meetAll ∈ pm_tbl := pm_m (lw_in3 (List.mem_of_getElem? (i := 5) rfl)) rfl
set_option maxRecDepth 100000 in
theorem wm_527 : Cond.code yX8_meetAll cX8_meetAll 8 none ∈ pm_tbl := pm_m (lw_in3 (List.mem_of_getElem? (i := 6) rfl)) rfl
set_option maxRecDepth 100000 in
theorem wm_528 : Cond.methodLink RX8 32 yJ7_fill_53178 ∈ pm_tbl := pm_m (lw_in3 (List.mem_of_getElem? (i := 7) rfl)) rfl
set_option maxRecDepth 100000 in
theorem wm_529 : Cond.methodLink RX8 38 yX8_after ∈ pm_tbl := pm_m (lw_in3 (List.mem_of_getElem? (i := 8) rfl)) rfl
set_option maxRecDepth 100000 in
theorem wm_530 : Cond.static yX8_after ∈ pm_tbl := pm_m (lw_in3 (List.mem_of_getElem? (i := 9) rfl)) rfl
set_option maxRecDepth 100000 in
theorem wm_531 : Cond.code yX8_after cX8_after 2 (some .int) ∈ pm_tbl := pm_m (lw_in3 (List.mem_of_getElem? (i := 10) rfl)) rfl
set_option maxRecDepth 100000 in
theorem wm_532 : Cond.methodLinkNest RX8 42 yX9_turnedBits RX9 ∈ pm_tbl := pm_m (lw_in3 (List.mem_of_getElem? (i := 11) rfl)) rfl
set_option maxRecDepth 100000 in
theorem wm_533 : Cond.static yX9_turnedBits ∈ pm_tbl := pm_m (lw_in3 (List.mem_of_getElem? (i := 12) rfl)) rfl
set_option maxRecDepth 100000 in
theorem wm_534 : Cond.code yX9_turnedBits cX9_turnedBits 3 (some .int) ∈ pm_tbl := pm_m (lw_in3 (List.mem_of_getElem? (i := 13) rfl)) rfl
set_option maxRecDepth 100000 in
theorem wm_535 : Cond.methodLinkNest RX8 46 yX9_oppositeBits RX9 ∈ pm_tbl := pm_m (lw_in3 (List.mem_of_getElem? (i := 14) rfl)) rfl
set_option maxRecDepth 100000 in
theorem wm_536 : Cond.static yX9_oppositeBits ∈ pm_tbl := pm_m (lw_in3 (List.mem_of_getElem? (i := 15) rfl)) rfl
set_option maxRecDepth 100000 in
theorem wm_537 : Cond.code yX9_oppositeBits cX9_oppositeBits 1 (some .int) ∈ pm_tbl := pm_m (lw_in3 (List.mem_of_getElem? (i := 16) rfl)) rfl
set_option maxRecDepth 100000 in
theorem wm_538 : Cond.methodLinkNest RX8 49 yX9_nestedBits RX9 ∈ pm_tbl := pm_m (lw_in3 (List.mem_of_getElem? (i := 17) rfl)) rfl
set_option maxRecDepth 100000 in
theorem wm_539 : Cond.static yX9_nestedBits ∈ pm_tbl := pm_m (lw_in3 (List.mem_of_getElem? (i := 18) rfl)) rfl
set_option maxRecDepth 100000 in
theorem wm_540 : Cond.code yX9_nestedBits cX9_nestedBits 1 (some .int) ∈ pm_tbl := pm_m (lw_in3 (List.mem_of_getElem? (i := 19) rfl)) rfl
set_option maxRecDepth 100000 in
theorem wm_541 : Cond.methodLink RL 88 yX9_step ∈ pm_tbl := pm_m (lw_in3 (List.mem_of_getElem? (i := 20) rfl)) rfl
set_option maxRecDepth 100000 in
theorem wm_542 : Cond.instanceMethod yX9_step ∈ pm_tbl := pm_m (lw_in3 (List.mem_of_getElem? (i := 21) rfl)) rfl
set_option maxRecDepth 100000 in
theorem wm_543 : Cond.selects RX9 yX9_step yX9_step ∈ pm_tbl := pm_m (lw_in3 (List.mem_of_getElem? (i := 22) rfl)) rfl
set_option maxRecDepth 100000 in
theorem wm_544 : Cond.code yX9_step cX9_step 2 (some .int) ∈ pm_tbl := pm_m (lw_in3 (List.mem_of_getElem? (i := 23) rfl)) rfl
set_option maxRecDepth 100000 in
theorem wm_545 : Cond.methodLink RX9 191 yX8_actAt ∈ pm_tbl := pm_m (lw_in3 (List.mem_of_getElem? (i := 24) rfl)) rfl
set_option maxRecDepth 100000 in
theorem wm_546 : Cond.instanceMethod yX8_actAt ∈ pm_tbl := pm_m (lw_in3 (List.mem_of_getElem? (i := 25) rfl)) rfl
set_option maxRecDepth 100000 in
theorem wm_547 : Cond.selects RX8 yX8_actAt yX8_actAt ∈ pm_tbl := pm_m (lw_in3 (List.mem_of_getElem? (i := 26) rfl)) rfl
set_option maxRecDepth 100000 in
theorem wm_548 : Cond.code yX8_actAt cX8_actAt 2 (some .int) ∈ pm_tbl := pm_m (lw_in3 (List.mem_of_getElem? (i := 27) rfl)) rfl
set_option maxRecDepth 100000 in
theorem wm_549 : Cond.methodLink RL 92 yX9_row ∈ pm_tbl := pm_m (lw_in3 (List.mem_of_getElem? (i := 28) rfl)) rfl
set_option maxRecDepth 100000 in
theorem wm_550 : Cond.instanceMethod yX9_row ∈ pm_tbl := pm_m (lw_in3 (List.mem_of_getElem? (i := 29) rfl)) rfl
set_option maxRecDepth 100000 in
theorem wm_551 : Cond.selects RX9 yX9_row yX9_row ∈ pm_tbl := pm_m (lw_in3 (List.mem_of_getElem? (i := 30) rfl)) rfl
set_option maxRecDepth 100000 in
theorem wm_552 : Cond.code yX9_row cX9_row 4 (some .int) ∈ pm_tbl := pm_m (lw_in3 (List.mem_of_getElem? (i := 31) rfl)) rfl
set_option maxRecDepth 100000 in
theorem wm_553 : Cond.methodLink RX9 194 yX9_rowAt ∈ pm_tbl := pm_m (lw_in3 (List.mem_of_getElem? (i := 32) rfl)) rfl
set_option maxRecDepth 100000 in
theorem wm_555 : Cond.instanceMethod yX9_rowAt ∈ pm_tbl := pm_m (lw_in3 (List.mem_of_getElem? (i := 34) rfl)) rfl
set_option maxRecDepth 100000 in
theorem wm_556 : Cond.code yX9_rowAt cX9_rowAt 2 (some (.object "StalkRoom$ByteRow")) ∈ pm_tbl := pm_m (lw_in3 (List.mem_of_getElem? (i := 35) rfl)) rfl
set_option maxRecDepth 100000 in
theorem wm_557 : Cond.methodLink RX9 198 yX0_begin ∈ pm_tbl := pm_m (lw_in3 (List.mem_of_getElem? (i := 36) rfl)) rfl
set_option maxRecDepth 100000 in
theorem wm_558 : Cond.instanceMethod yX0_begin ∈ pm_tbl := pm_m (lw_in3 (List.mem_of_getElem? (i := 37) rfl)) rfl
set_option maxRecDepth 100000 in
theorem wm_559 : Cond.selects RX0 yX0_begin yX0_begin ∈ pm_tbl := pm_m (lw_in3 (List.mem_of_getElem? (i := 38) rfl)) rfl
set_option maxRecDepth 100000 in
theorem wm_560 : Cond.code yX0_begin cX0_begin 2 none ∈ pm_tbl := pm_m (lw_in3 (List.mem_of_getElem? (i := 39) rfl)) rfl
set_option maxRecDepth 100000 in
theorem wm_561 : Cond.methodLink RX0 19 yJ7_fill_031fb ∈ pm_tbl := pm_m (lw_in3 (List.mem_of_getElem? (i := 40) rfl)) rfl
set_option maxRecDepth 100000 in
theorem wm_562 : Cond.static yJ7_fill_031fb ∈ pm_tbl := pm_m (lw_in3 (List.mem_of_getElem? (i := 41) rfl)) rfl
set_option maxRecDepth 100000 in
theorem wm_563 : Cond.code yJ7_fill_031fb cJ7_fill_031fb 4 none ∈ pm_tbl := pm_m (lw_in3 (List.mem_of_getElem? (i := 42) rfl)) rfl
set_option maxRecDepth 100000 in
theorem wm_564 : Cond.methodLink RL 96 yX9_lay ∈ pm_tbl := pm_m (lw_in3 (List.mem_of_getElem? (i := 43) rfl)) rfl
set_option maxRecDepth 100000 in
theorem wm_565 : Cond.instanceMethod yX9_lay ∈ pm_tbl := pm_m (lw_in3 (List.mem_of_getElem? (i := 44) rfl)) rfl
set_option maxRecDepth 100000 in
theorem wm_566 : Cond.selects RX9 yX9_lay yX9_lay ∈ pm_tbl := pm_m (lw_in3 (List.mem_of_getElem? (i := 45) rfl)) rfl
set_option maxRecDepth 100000 in
theorem wm_567 : Cond.code yX9_lay cX9_lay 6 (some .int) ∈ pm_tbl := pm_m (lw_in3 (List.mem_of_getElem? (i := 46) rfl)) rfl
set_option maxRecDepth 100000 in
theorem wm_568 : Cond.methodLink RX9 201 yX0_isThere ∈ pm_tbl := pm_m (lw_in3 (List.mem_of_getElem? (i := 47) rfl)) rfl
set_option maxRecDepth 100000 in
theorem wm_569 : Cond.instanceMethod yX0_isThere ∈ pm_tbl := pm_m (lw_in3 (List.mem_of_getElem? (i := 48) rfl)) rfl
set_option maxRecDepth 100000 in
theorem wm_570 : Cond.selects RX0 yX0_isThere yX0_isThere ∈ pm_tbl := pm_m (lw_in3 (List.mem_of_getElem? (i := 49) rfl)) rfl
set_option maxRecDepth 100000 in
theorem wm_571 : Cond.code yX0_isThere cX0_isThere 1 (some .boolean) ∈ pm_tbl := pm_m (lw_in3 (List.mem_of_getElem? (i := 50) rfl)) rfl
set_option maxRecDepth 100000 in
theorem wm_572 : Cond.methodLink RL 100 yX9_tear ∈ pm_tbl := pm_m (lw_in3 (List.mem_of_getElem? (i := 51) rfl)) rfl
set_option maxRecDepth 100000 in
theorem wm_573 : Cond.instanceMethod yX9_tear ∈ pm_tbl := pm_m (lw_in3 (List.mem_of_getElem? (i := 52) rfl)) rfl
set_option maxRecDepth 100000 in
theorem wm_574 : Cond.selects RX9 yX9_tear yX9_tear ∈ pm_tbl := pm_m (lw_in3 (List.mem_of_getElem? (i := 53) rfl)) rfl
set_option maxRecDepth 100000 in
theorem wm_575 : Cond.code yX9_tear cX9_tear 3 (some .int) ∈ pm_tbl := pm_m (lw_in3 (List.mem_of_getElem? (i := 54) rfl)) rfl
set_option maxRecDepth 100000 in
theorem wm_576 : Cond.methodLink RL 104 yX9_copy ∈ pm_tbl := pm_m (lw_in3 (List.mem_of_getElem? (i := 55) rfl)) rfl
set_option maxRecDepth 100000 in
theorem wm_577 : Cond.instanceMethod yX9_copy ∈ pm_tbl := pm_m (lw_in3 (List.mem_of_getElem? (i := 56) rfl)) rfl
set_option maxRecDepth 100000 in
theorem wm_578 : Cond.selects RX9 yX9_copy yX9_copy ∈ pm_tbl := pm_m (lw_in3 (List.mem_of_getElem? (i := 57) rfl)) rfl
set_option maxRecDepth 100000 in
theorem wm_579 : Cond.code yX9_copy cX9_copy 8 (some .int) ∈ pm_tbl := pm_m (lw_in3 (List.mem_of_getElem? (i := 58) rfl)) rfl
set_option maxRecDepth 100000 in
theorem wm_580 : Cond.methodLink RX9 212 yX0_hasBytes ∈ pm_tbl := pm_m (lw_in3 (List.mem_of_getElem? (i := 59) rfl)) rfl
set_option maxRecDepth 100000 in
theorem wm_581 : Cond.instanceMethod yX0_hasBytes ∈ pm_tbl := pm_m (lw_in3 (List.mem_of_getElem? (i := 60) rfl)) rfl
set_option maxRecDepth 100000 in
theorem wm_582 : Cond.selects RX0 yX0_hasBytes yX0_hasBytes ∈ pm_tbl := pm_m (lw_in3 (List.mem_of_getElem? (i := 61) rfl)) rfl
set_option maxRecDepth 100000 in
theorem wm_583 : Cond.code yX0_hasBytes cX0_hasBytes 3 (some .boolean) ∈ pm_tbl := pm_m (lw_in3 (List.mem_of_getElem? (i := 62) rfl)) rfl
set_option maxRecDepth 100000 in
theorem wm_584 : Cond.methodLink RX9 215 ⟨"java/lang/System", "arraycopy", "(Ljava/lang/Object;ILjava/lang/Object;II)V"⟩ ∈ pm_tbl := pm_m (lw_in3 (List.mem_of_getElem? (i := 63) rfl)) rfl
set_option maxRecDepth 100000 in
theorem wm_585 : Cond.methodLink RL 109 yX9_misfits ∈ pm_tbl := pm_m (lw_in3 (List.mem_of_getElem? (i := 64) rfl)) rfl
set_option maxRecDepth 100000 in
theorem wm_586 : Cond.instanceMethod yX9_misfits ∈ pm_tbl := pm_m (lw_in3 (List.mem_of_getElem? (i := 65) rfl)) rfl
set_option maxRecDepth 100000 in
theorem wm_587 : Cond.selects RX9 yX9_misfits yX9_misfits ∈ pm_tbl := pm_m (lw_in3 (List.mem_of_getElem? (i := 66) rfl)) rfl
set_option maxRecDepth 100000 in
theorem wm_588 : Cond.code yX9_misfits cX9_misfits 4 (some .int) ∈ pm_tbl := pm_m (lw_in3 (List.mem_of_getElem? (i := 67) rfl)) rfl
set_option maxRecDepth 100000 in
theorem wm_589 : Cond.methodLink RX9 221 yX9_isOrder ∈ pm_tbl := pm_m (lw_in3 (List.mem_of_getElem? (i := 68) rfl)) rfl
set_option maxRecDepth 100000 in
theorem wm_590 : Cond.static yX9_isOrder ∈ pm_tbl := pm_m (lw_in3 (List.mem_of_getElem? (i := 69) rfl)) rfl
set_option maxRecDepth 100000 in
theorem wm_591 : Cond.code yX9_isOrder cX9_isOrder 1 (some .boolean) ∈ pm_tbl := pm_m (lw_in3 (List.mem_of_getElem? (i := 70) rfl)) rfl
set_option maxRecDepth 100000 in
theorem wm_592 : Cond.methodLink RX9 224 yX0_misfitsIn ∈ pm_tbl := pm_m (lw_in3 (List.mem_of_getElem? (i := 71) rfl)) rfl
set_option maxRecDepth 100000 in
theorem wm_593 : Cond.instanceMethod yX0_misfitsIn ∈ pm_tbl := pm_m (lw_in3 (List.mem_of_getElem? (i := 72) rfl)) rfl
set_option maxRecDepth 100000 in
theorem wm_594 : Cond.selects RX0 yX0_misfitsIn yX0_misfitsIn ∈ pm_tbl := pm_m (lw_in3 (List.mem_of_getElem? (i := 73) rfl)) rfl
set_option maxRecDepth 100000 in
theorem wm_595 : Cond.code yX0_misfitsIn cX0_misfitsIn 4 (some .int) ∈ pm_tbl := pm_m (lw_in3 (List.mem_of_getElem? (i := 74) rfl)) rfl
set_option maxRecDepth 100000 in
theorem wm_596 : Cond.methodLink RX0 25 yX0_isMisfit ∈ pm_tbl := pm_m (lw_in3 (List.mem_of_getElem? (i := 75) rfl)) rfl
set_option maxRecDepth 100000 in
theorem wm_598 : Cond.instanceMethod yX0_isMisfit ∈ pm_tbl := pm_m (lw_in3 (List.mem_of_getElem? (i := 77) rfl)) rfl
set_option maxRecDepth 100000 in
theorem wm_599 : Cond.code yX0_isMisfit cX0_isMisfit 3 (some .boolean) ∈ pm_tbl := pm_m (lw_in3 (List.mem_of_getElem? (i := 78) rfl)) rfl
set_option maxRecDepth 100000 in
theorem wm_600 : Cond.methodLink RX0 49 yX0_isMisfitPair ∈ pm_tbl := pm_m (lw_in3 (List.mem_of_getElem? (i := 79) rfl)) rfl
set_option maxRecDepth 100000 in
theorem wm_602 : Cond.instanceMethod yX0_isMisfitPair ∈ pm_tbl := pm_m (lw_in3 (List.mem_of_getElem? (i := 81) rfl)) rfl
set_option maxRecDepth 100000 in
theorem wm_603 : Cond.code yX0_isMisfitPair cX0_isMisfitPair 3 (some .boolean) ∈ pm_tbl := pm_m (lw_in3 (List.mem_of_getElem? (i := 82) rfl)) rfl
set_option maxRecDepth 100000 in
theorem wm_604 : Cond.methodLinkNest RX0 29 yX9_isNumber RX9 ∈ pm_tbl := pm_m (lw_in3 (List.mem_of_getElem? (i := 83) rfl)) rfl
set_option maxRecDepth 100000 in
theorem wm_605 : Cond.methodLinkNest RX0 52 yX9_turnedBits RX9 ∈ pm_tbl := pm_m (lw_in3 (List.mem_of_getElem? (i := 84) rfl)) rfl
set_option maxRecDepth 100000 in
theorem wm_606 : Cond.methodLinkNest RX0 55 yX9_oppositeBits RX9 ∈ pm_tbl := pm_m (lw_in3 (List.mem_of_getElem? (i := 85) rfl)) rfl
set_option maxRecDepth 100000 in
theorem wm_607 : Cond.methodLink RL 113 yX9_follows ∈ pm_tbl := pm_m (lw_in3 (List.mem_of_getElem? (i := 86) rfl)) rfl
set_option maxRecDepth 100000 in
theorem wm_608 : Cond.instanceMethod yX9_follows ∈ pm_tbl := pm_m (lw_in3 (List.mem_of_getElem? (i := 87) rfl)) rfl
set_option maxRecDepth 100000 in
theorem wm_609 : Cond.selects RX9 yX9_follows yX9_follows ∈ pm_tbl := pm_m (lw_in3 (List.mem_of_getElem? (i := 88) rfl)) rfl
set_option maxRecDepth 100000 in
theorem wm_610 : Cond.code yX9_follows cX9_follows 7 (some .int) ∈ pm_tbl := pm_m (lw_in3 (List.mem_of_getElem? (i := 89) rfl)) rfl
set_option maxRecDepth 100000 in
theorem wm_611 : Cond.methodLink RL 117 yX9_lacks ∈ pm_tbl := pm_m (lw_in3 (List.mem_of_getElem? (i := 90) rfl)) rfl
set_option maxRecDepth 100000 in
theorem wm_612 : Cond.instanceMethod yX9_lacks ∈ pm_tbl := pm_m (lw_in3 (List.mem_of_getElem? (i := 91) rfl)) rfl
set_option maxRecDepth 100000 in
theorem wm_613 : Cond.selects RX9 yX9_lacks yX9_lacks ∈ pm_tbl := pm_m (lw_in3 (List.mem_of_getElem? (i := 92) rfl)) rfl
set_option maxRecDepth 100000 in
theorem wm_614 : Cond.code yX9_lacks cX9_lacks 3 (some .int) ∈ pm_tbl := pm_m (lw_in3 (List.mem_of_getElem? (i := 93) rfl)) rfl
set_option maxRecDepth 100000 in
theorem wm_615 : Cond.methodLink RX9 227 yX0_numbersThere ∈ pm_tbl := pm_m (lw_in3 (List.mem_of_getElem? (i := 94) rfl)) rfl
set_option maxRecDepth 100000 in
theorem wm_616 : Cond.instanceMethod yX0_numbersThere ∈ pm_tbl := pm_m (lw_in3 (List.mem_of_getElem? (i := 95) rfl)) rfl
set_option maxRecDepth 100000 in
theorem wm_617 : Cond.selects RX0 yX0_numbersThere yX0_numbersThere ∈ pm_tbl := pm_m (lw_in3 (List.mem_of_getElem? (i := 96) rfl)) rfl
set_option maxRecDepth 100000 in
theorem wm_618 : Cond.code yX0_numbersThere cX0_numbersThere 4 (some .long) ∈ pm_tbl := pm_m (lw_in3 (List.mem_of_getElem? (i := 97) rfl)) rfl
set_option maxRecDepth 100000 in
theorem wm_619 : Cond.constantLong RX9 231 (-1) ∈ pm_tbl := pm_m (lw_in3 (List.mem_of_getElem? (i := 98) rfl)) rfl
set_option maxRecDepth 100000 in
theorem wm_620 : Cond.methodLink RX9 233 yJ13_bitCount_95d88 ∈ pm_tbl := pm_m (lw_in3 (List.mem_of_getElem? (i := 99) rfl)) rfl
set_option maxRecDepth 100000 in
theorem wm_621 : Cond.static yJ13_bitCount_95d88 ∈ pm_tbl := pm_m (lw_in3 (List.mem_of_getElem? (i := 100) rfl)) rfl
set_option maxRecDepth 100000 in
theorem wm_622 : Cond.code yJ13_bitCount_95d88 cJ13_bitCount_95d88 2 (some .int) ∈ pm_tbl := pm_m (lw_in3 (List.mem_of_getElem? (i := 101) rfl)) rfl
set_option maxRecDepth 100000 in
theorem wm_623 : Cond.constantLong RJ13 314 (6148914691236517205) ∈ pm_tbl := pm_m (lw_in3 (List.mem_of_getElem? (i := 102) rfl)) rfl
set_option maxRecDepth 100000 in
theorem wm_624 : Cond.constantLong RJ13 316 (3689348814741910323) ∈ pm_tbl := pm_m (lw_in3 (List.mem_of_getElem? (i := 103) rfl)) rfl
set_option maxRecDepth 100000 in
theorem wm_625 : Cond.constantLong RJ13 318 (1085102592571150095) ∈ pm_tbl := pm_m (lw_in3 (List.mem_of_getElem? (i := 104) rfl)) rfl
set_option maxRecDepth 100000 in
theorem wm_626 : Cond.methodLink RL 121 yX9_swapped ∈ pm_tbl := pm_m (lw_in3 (List.mem_of_getElem? (i := 105) rfl)) rfl
set_option maxRecDepth 100000 in
theorem wm_627 : Cond.instanceMethod yX9_swapped ∈ pm_tbl := pm_m (lw_in3 (List.mem_of_getElem? (i := 106) rfl)) rfl
set_option maxRecDepth 100000 in
theorem wm_628 : Cond.selects RX9 yX9_swapped yX9_swapped ∈ pm_tbl := pm_m (lw_in3 (List.mem_of_getElem? (i := 107) rfl)) rfl
set_option maxRecDepth 100000 in
theorem wm_629 : Cond.code yX9_swapped cX9_swapped 4 (some .int) ∈ pm_tbl := pm_m (lw_in3 (List.mem_of_getElem? (i := 108) rfl)) rfl
set_option maxRecDepth 100000 in
theorem wm_630 : Cond.methodLink RX9 239 yX0_mendingSwap ∈ pm_tbl := pm_m (lw_in3 (List.mem_of_getElem? (i := 109) rfl)) rfl
set_option maxRecDepth 100000 in
theorem wm_631 : Cond.instanceMethod yX0_mendingSwap ∈ pm_tbl := pm_m (lw_in3 (List.mem_of_getElem? (i := 110) rfl)) rfl
set_option maxRecDepth 100000 in
theorem wm_632 : Cond.selects RX0 yX0_mendingSwap yX0_mendingSwap ∈ pm_tbl := pm_m (lw_in3 (List.mem_of_getElem? (i := 111) rfl)) rfl
set_option maxRecDepth 100000 in
theorem wm_633 : Cond.code yX0_mendingSwap cX0_mendingSwap 5 (some .int) ∈ pm_tbl := pm_m (lw_in3 (List.mem_of_getElem? (i := 112) rfl)) rfl
set_option maxRecDepth 100000 in
theorem wm_634 : Cond.methodLink RX0 33 yX0_misfitsIn ∈ pm_tbl := pm_m (lw_in3 (List.mem_of_getElem? (i := 113) rfl)) rfl
set_option maxRecDepth 100000 in
theorem wm_635 : Cond.methodLink RX0 37 yX0_isMendedBy ∈ pm_tbl := pm_m (lw_in3 (List.mem_of_getElem? (i := 114) rfl)) rfl
set_option maxRecDepth 100000 in
theorem wm_637 : Cond.instanceMethod yX0_isMendedBy ∈ pm_tbl := pm_m (lw_in3 (List.mem_of_getElem? (i := 116) rfl)) rfl
set_option maxRecDepth 100000 in
theorem wm_638 : Cond.code yX0_isMendedBy cX0_isMendedBy 5 (some .boolean) ∈ pm_tbl := pm_m (lw_in3 (List.mem_of_getElem? (i := 117) rfl)) rfl
set_option maxRecDepth 100000 in
theorem wm_639 : Cond.methodLink RX0 45 yX0_changePlaces ∈ pm_tbl := pm_m (lw_in3 (List.mem_of_getElem? (i := 118) rfl)) rfl
set_option maxRecDepth 100000 in
theorem wm_641 : Cond.instanceMethod yX0_changePlaces ∈ pm_tbl := pm_m (lw_in3 (List.mem_of_getElem? (i := 120) rfl)) rfl
set_option maxRecDepth 100000 in
theorem wm_642 : Cond.code yX0_changePlaces cX0_changePlaces 4 none ∈ pm_tbl := pm_m (lw_in3 (List.mem_of_getElem? (i := 121) rfl)) rfl
set_option maxRecDepth 100000 in
theorem wm_643 : Cond.methodLink RL 125 yX9_record ∈ pm_tbl := pm_m (lw_in3 (List.mem_of_getElem? (i := 122) rfl)) rfl
set_option maxRecDepth 100000 in
theorem wm_644 : Cond.instanceMethod yX9_record ∈ pm_tbl := pm_m (lw_in3 (List.mem_of_getElem? (i := 123) rfl)) rfl
set_option maxRecDepth 100000 in
theorem wm_645 : Cond.selects RX9 yX9_record yX9_record ∈ pm_tbl := pm_m (lw_in3 (List.mem_of_getElem? (i := 124) rfl)) rfl
set_option maxRecDepth 100000 in
theorem wm_646 : Cond.code yX9_record cX9_record 9 (some .int) ∈ pm_tbl := pm_m (lw_in3 (List.mem_of_getElem? (i := 125) rfl)) rfl
set_option maxRecDepth 100000 in
theorem wm_647 : Cond.methodLink RL 130 yX9_off ∈ pm_tbl := pm_m (lw_in3 (List.mem_of_getElem? (i := 126) rfl)) rfl
set_option maxRecDepth 100000 in
theorem wm_648 : Cond.instanceMethod yX9_off ∈ pm_tbl := pm_m (lw_in3 (List.mem_of_getElem? (i := 127) rfl)) rfl
set_option maxRecDepth 100000 in
theorem wm_649 : Cond.selects RX9 yX9_off yX9_off ∈ pm_tbl := pm_m (lw_in3 (List.mem_of_getElem? (i := 128) rfl)) rfl
set_option maxRecDepth 100000 in
theorem wm_650 : Cond.code yX9_off cX9_off 5 (some .int) ∈ pm_tbl := pm_m (lw_in3 (List.mem_of_getElem? (i := 129) rfl)) rfl
set_option maxRecDepth 100000 in
theorem wm_651 : Cond.methodLink RX9 242 yX0_partsInto ∈ pm_tbl := pm_m (lw_in3 (List.mem_of_getElem? (i := 130) rfl)) rfl
set_option maxRecDepth 100000 in
theorem wm_652 : Cond.instanceMethod yX0_partsInto ∈ pm_tbl := pm_m (lw_in3 (List.mem_of_getElem? (i := 131) rfl)) rfl
set_option maxRecDepth 100000 in
theorem wm_653 : Cond.selects RX0 yX0_partsInto yX0_partsInto ∈ pm_tbl := pm_m (lw_in3 (List.mem_of_getElem? (i := 132) rfl)) rfl
set_option maxRecDepth 100000 in
theorem wm_654 : Cond.code yX0_partsInto cX0_partsInto 4 (some .boolean) ∈ pm_tbl := pm_m (lw_in3 (List.mem_of_getElem? (i := 133) rfl)) rfl
set_option maxRecDepth 100000 in
theorem wm_655 : Cond.methodLink RX0 41 yJ7_fill_53178 ∈ pm_tbl := pm_m (lw_in3 (List.mem_of_getElem? (i := 134) rfl)) rfl
set_option maxRecDepth 100000 in
theorem wm_656 : Cond.constant RX0 44 (1000000) ∈ pm_tbl := pm_m (lw_in3 (List.mem_of_getElem? (i := 135) rfl)) rfl
set_option maxRecDepth 100000 in
theorem wm_657 : Cond.methodLink RX9 246 yX9_weighedDiffer ∈ pm_tbl := pm_m (lw_in3 (List.mem_of_getElem? (i := 136) rfl)) rfl
set_option maxRecDepth 100000 in
theorem wm_659 : Cond.instanceMethod yX9_weighedDiffer ∈ pm_tbl := pm_m (lw_in3 (List.mem_of_getElem? (i := 138) rfl)) rfl
set_option maxRecDepth 100000 in
theorem wm_660 : Cond.code yX9_weighedDiffer cX9_weighedDiffer 3 (some .int) ∈ pm_tbl := pm_m (lw_in3 (List.mem_of_getElem? (i := 139) rfl)) rfl
set_option maxRecDepth 100000 in
theorem wm_661 : Cond.methodLink RX9 254 yX4_partsInto ∈ pm_tbl := pm_m (lw_in3 (List.mem_of_getElem? (i := 140) rfl)) rfl
set_option maxRecDepth 100000 in
theorem wm_662 : Cond.instanceMethod yX4_partsInto ∈ pm_tbl := pm_m (lw_in3 (List.mem_of_getElem? (i := 141) rfl)) rfl
set_option maxRecDepth 100000 in
theorem wm_663 : Cond.selects RX4 yX4_partsInto yX4_partsInto ∈ pm_tbl := pm_m (lw_in3 (List.mem_of_getElem? (i := 142) rfl)) rfl
set_option maxRecDepth 100000 in
theorem wm_664 : Cond.code yX4_partsInto cX4_partsInto 3 none ∈ pm_tbl := pm_m (lw_in3 (List.mem_of_getElem? (i := 143) rfl)) rfl
set_option maxRecDepth 100000 in
theorem wm_665 : Cond.constantLong RX4 35 (1000000) ∈ pm_tbl := pm_m (lw_in3 (List.mem_of_getElem? (i := 144) rfl)) rfl
set_option maxRecDepth 100000 in
theorem wm_666 : Cond.methodLink RX9 272 yJ9_abs_0f7a4 ∈ pm_tbl := pm_m (lw_in3 (List.mem_of_getElem? (i := 145) rfl)) rfl
set_option maxRecDepth 100000 in
theorem wm_667 : Cond.static yJ9_abs_0f7a4 ∈ pm_tbl := pm_m (lw_in3 (List.mem_of_getElem? (i := 146) rfl)) rfl
set_option maxRecDepth 100000 in
theorem wm_668 : Cond.code yJ9_abs_0f7a4 cJ9_abs_0f7a4 1 (some .int) ∈ pm_tbl := pm_m (lw_in3 (List.mem_of_getElem? (i := 147) rfl)) rfl
set_option maxRecDepth 100000 in
theorem wm_669 : Cond.methodLink RL 134 yX9_nearest ∈ pm_tbl := pm_m (lw_in3 (List.mem_of_getElem? (i := 148) rfl)) rfl
set_option maxRecDepth 100000 in
theorem wm_670 : Cond.instanceMethod yX9_nearest ∈ pm_tbl := pm_m (lw_in3 (List.mem_of_getElem? (i := 149) rfl)) rfl
set_option maxRecDepth 100000 in
theorem wm_671 : Cond.selects RX9 yX9_nearest yX9_nearest ∈ pm_tbl := pm_m (lw_in3 (List.mem_of_getElem? (i := 150) rfl)) rfl
set_option maxRecDepth 100000 in
theorem wm_672 : Cond.code yX9_nearest cX9_nearest 7 (some .int) ∈ pm_tbl := pm_m (lw_in3 (List.mem_of_getElem? (i := 151) rfl)) rfl
set_option maxRecDepth 100000 in
theorem wm_673 : Cond.constant RX9 249 (2000001) ∈ pm_tbl := pm_m (lw_in3 (List.mem_of_getElem? (i := 152) rfl)) rfl
set_option maxRecDepth 100000 in
theorem wm_674 : Cond.methodLink RL 138 yX9_lost ∈ pm_tbl := pm_m (lw_in3 (List.mem_of_getElem? (i := 153) rfl)) rfl
set_option maxRecDepth 100000 in
theorem wm_675 : Cond.instanceMethod yX9_lost ∈ pm_tbl := pm_m (lw_in3 (List.mem_of_getElem? (i := 154) rfl)) rfl
set_option maxRecDepth 100000 in
theorem wm_676 : Cond.selects RX9 yX9_lost yX9_lost ∈ pm_tbl := pm_m (lw_in3 (List.mem_of_getElem? (i := 155) rfl)) rfl
set_option maxRecDepth 100000 in
theorem wm_677 : Cond.code yX9_lost cX9_lost 10 (some .int) ∈ pm_tbl := pm_m (lw_in3 (List.mem_of_getElem? (i := 156) rfl)) rfl
set_option maxRecDepth 100000 in
theorem wm_678 : Cond.methodLink RX9 250 yX6_weighBundle ∈ pm_tbl := pm_m (lw_in3 (List.mem_of_getElem? (i := 157) rfl)) rfl
set_option maxRecDepth 100000 in
theorem wm_679 : Cond.methodLink RL 142 yX9_need ∈ pm_tbl := pm_m (lw_in3 (List.mem_of_getElem? (i := 158) rfl)) rfl
set_option maxRecDepth 100000 in
theorem wm_680 : Cond.instanceMethod yX9_need ∈ pm_tbl := pm_m (lw_in3 (List.mem_of_getElem? (i := 159) rfl)) rfl
set_option maxRecDepth 100000 in
theorem wm_681 : Cond.selects RX9 yX9_need yX9_need ∈ pm_tbl := pm_m (lw_in3 (List.mem_of_getElem? (i := 160) rfl)) rfl
set_option maxRecDepth 100000 in
theorem wm_682 : Cond.code yX9_need cX9_need 6 (some .int) ∈ pm_tbl := pm_m (lw_in3 (List.mem_of_getElem? (i := 161) rfl)) rfl
set_option maxRecDepth 100000 in
theorem wm_683 : Cond.constant RX9 257 (10000000) ∈ pm_tbl := pm_m (lw_in3 (List.mem_of_getElem? (i := 162) rfl)) rfl
set_option maxRecDepth 100000 in
theorem wm_684 : Cond.methodLink RL 146 yX9_asked ∈ pm_tbl := pm_m (lw_in3 (List.mem_of_getElem? (i := 163) rfl)) rfl
set_option maxRecDepth 100000 in
theorem wm_685 : Cond.instanceMethod yX9_asked ∈ pm_tbl := pm_m (lw_in3 (List.mem_of_getElem? (i := 164) rfl)) rfl
set_option maxRecDepth 100000 in
theorem wm_686 : Cond.selects RX9 yX9_asked yX9_asked ∈ pm_tbl := pm_m (lw_in3 (List.mem_of_getElem? (i := 165) rfl)) rfl
set_option maxRecDepth 100000 in
theorem wm_687 : Cond.code yX9_asked cX9_asked 1 (some .long) ∈ pm_tbl := pm_m (lw_in3 (List.mem_of_getElem? (i := 166) rfl)) rfl
set_option maxRecDepth 100000 in
theorem wm_688 : Cond.methodLink RL 151 yX9_upper ∈ pm_tbl := pm_m (lw_in3 (List.mem_of_getElem? (i := 167) rfl)) rfl
set_option maxRecDepth 100000 in
theorem wm_689 : Cond.instanceMethod yX9_upper ∈ pm_tbl := pm_m (lw_in3 (List.mem_of_getElem? (i := 168) rfl)) rfl
set_option maxRecDepth 100000 in
theorem wm_690 : Cond.selects RX9 yX9_upper yX9_upper ∈ pm_tbl := pm_m (lw_in3 (List.mem_of_getElem? (i := 169) rfl)) rfl
set_option maxRecDepth 100000 in
theorem wm_691 : Cond.code yX9_upper cX9_upper 1 (some .long) ∈ pm_tbl := pm_m (lw_in3 (List.mem_of_getElem? (i := 170) rfl)) rfl
set_option maxRecDepth 100000 in
theorem wm_692 : Cond.methodLink RL 155 yX9_lower ∈ pm_tbl := pm_m (lw_in3 (List.mem_of_getElem? (i := 171) rfl)) rfl
set_option maxRecDepth 100000 in
theorem wm_693 : Cond.instanceMethod yX9_lower ∈ pm_tbl := pm_m (lw_in3 (List.mem_of_getElem? (i := 172) rfl)) rfl
set_option maxRecDepth 100000 in
theorem wm_694 : Cond.selects RX9 yX9_lower yX9_lower ∈ pm_tbl := pm_m (lw_in3 (List.mem_of_getElem? (i := 173) rfl)) rfl
set_option maxRecDepth 100000 in
theorem wm_695 : Cond.code yX9_lower cX9_lower 1 (some .long) ∈ pm_tbl := pm_m (lw_in3 (List.mem_of_getElem? (i := 174) rfl)) rfl
set_option maxRecDepth 100000 in
theorem wm_696 : Cond.methodLink RL 159 yX9_count ∈ pm_tbl := pm_m (lw_in3 (List.mem_of_getElem? (i := 175) rfl)) rfl
set_option maxRecDepth 100000 in
theorem wm_697 : Cond.instanceMethod yX9_count ∈ pm_tbl := pm_m (lw_in3 (List.mem_of_getElem? (i := 176) rfl)) rfl
set_option maxRecDepth 100000 in
theorem wm_698 : Cond.selects RX9 yX9_count yX9_count ∈ pm_tbl := pm_m (lw_in3 (List.mem_of_getElem? (i := 177) rfl)) rfl
set_option maxRecDepth 100000 in
theorem wm_699 : Cond.code yX9_count cX9_count 2 (some .int) ∈ pm_tbl := pm_m (lw_in3 (List.mem_of_getElem? (i := 178) rfl)) rfl
set_option maxRecDepth 100000 in
theorem wm_700 : Cond.methodLink RX9 258 yX9_rowsThere ∈ pm_tbl := pm_m (lw_in3 (List.mem_of_getElem? (i := 179) rfl)) rfl
set_option maxRecDepth 100000 in
theorem wm_702 : Cond.instanceMethod yX9_rowsThere ∈ pm_tbl := pm_m (lw_in3 (List.mem_of_getElem? (i := 181) rfl)) rfl
set_option maxRecDepth 100000 in
theorem wm_703 : Cond.code yX9_rowsThere cX9_rowsThere 3 (some .int) ∈ pm_tbl := pm_m (lw_in3 (List.mem_of_getElem? (i := 182) rfl)) rfl
set_option maxRecDepth 100000 in
theorem wm_704 : Cond.methodLink RX9 261 yX9_oldLinesOfAll ∈ pm_tbl := pm_m (lw_in3 (List.mem_of_getElem? (i := 183) rfl)) rfl
set_option maxRecDepth 100000 in
theorem wm_706 : Cond.instanceMethod yX9_oldLinesOfAll ∈ pm_tbl := pm_m (lw_in3 (List.mem_of_getElem? (i := 185) rfl)) rfl
set_option maxRecDepth 100000 in
theorem wm_707 : Cond.code yX9_oldLinesOfAll cX9_oldLinesOfAll 3 (some .int) ∈ pm_tbl := pm_m (lw_in3 (List.mem_of_getElem? (i := 186) rfl)) rfl
set_option maxRecDepth 100000 in
theorem wm_708 : Cond.methodLink RL 163 yX9_finding ∈ pm_tbl := pm_m (lw_in3 (List.mem_of_getElem? (i := 187) rfl)) rfl
set_option maxRecDepth 100000 in
theorem wm_709 : Cond.instanceMethod yX9_finding ∈ pm_tbl := pm_m (lw_in3 (List.mem_of_getElem? (i := 188) rfl)) rfl
set_option maxRecDepth 100000 in
theorem wm_710 : Cond.selects RX9 yX9_finding yX9_finding ∈ pm_tbl := pm_m (lw_in3 (List.mem_of_getElem? (i := 189) rfl)) rfl
set_option maxRecDepth 100000 in
theorem wm_711 : Cond.code yX9_finding cX9_finding 1 (some .int) ∈ pm_tbl := pm_m (lw_in3 (List.mem_of_getElem? (i := 190) rfl)) rfl
set_option maxRecDepth 100000 in
theorem wm_712 : Cond.methodLink RL 168 yX9_findings ∈ pm_tbl := pm_m (lw_in3 (List.mem_of_getElem? (i := 191) rfl)) rfl
set_option maxRecDepth 100000 in
theorem wm_713 : Cond.instanceMethod yX9_findings ∈ pm_tbl := pm_m (lw_in3 (List.mem_of_getElem? (i := 192) rfl)) rfl
set_option maxRecDepth 100000 in
theorem wm_714 : Cond.selects RX9 yX9_findings yX9_findings ∈ pm_tbl := pm_m (lw_in3 (List.mem_of_getElem? (i := 193) rfl)) rfl
set_option maxRecDepth 100000 in
theorem wm_715 : Cond.code yX9_findings cX9_findings 2 (some .int) ∈ pm_tbl := pm_m (lw_in3 (List.mem_of_getElem? (i := 194) rfl)) rfl
set_option maxRecDepth 100000 in
theorem wm_716 : Cond.methodLink RL 172 yX9_digest ∈ pm_tbl := pm_m (lw_in3 (List.mem_of_getElem? (i := 195) rfl)) rfl
set_option maxRecDepth 100000 in
theorem wm_717 : Cond.instanceMethod yX9_digest ∈ pm_tbl := pm_m (lw_in3 (List.mem_of_getElem? (i := 196) rfl)) rfl
set_option maxRecDepth 100000 in
theorem wm_718 : Cond.selects RX9 yX9_digest yX9_digest ∈ pm_tbl := pm_m (lw_in3 (List.mem_of_getElem? (i := 197) rfl)) rfl
set_option maxRecDepth 100000 in
theorem wm_719 : Cond.code yX9_digest cX9_digest 5 (some .long) ∈ pm_tbl := pm_m (lw_in3 (List.mem_of_getElem? (i := 198) rfl)) rfl
set_option maxRecDepth 100000 in
theorem wm_720 : Cond.constantLong RX9 264 (17) ∈ pm_tbl := pm_m (lw_in3 (List.mem_of_getElem? (i := 199) rfl)) rfl
set_option maxRecDepth 100000 in
theorem wm_721 : Cond.constantLong RX9 266 (31) ∈ pm_tbl := pm_m (lw_in3 (List.mem_of_getElem? (i := 200) rfl)) rfl
set_option maxRecDepth 100000 in
theorem wm_722 : Cond.classLink RL 10 RX10 ∈ pm_tbl := pm_m (lw_in3 (List.mem_of_getElem? (i := 201) rfl)) rfl
set_option maxRecDepth 100000 in
theorem wm_723 : Cond.instantiable RX10 33 ∈ pm_tbl := pm_m (lw_in3 (List.mem_of_getElem? (i := 202) rfl)) rfl
set_option maxRecDepth 100000 in
theorem wm_724 : Cond.methodLink RL 12 yX10_init ∈ pm_tbl := pm_m (lw_in3 (List.mem_of_getElem? (i := 203) rfl)) rfl
set_option maxRecDepth 100000 in
theorem wm_725 : Cond.instanceMethod yX10_init ∈ pm_tbl := pm_m (lw_in3 (List.mem_of_getElem? (i := 204) rfl)) rfl
set_option maxRecDepth 100000 in
theorem wm_726 : Cond.code yX10_init cX10_init 2 none ∈ pm_tbl := pm_m (lw_in3 (List.mem_of_getElem? (i := 205) rfl)) rfl
set_option maxRecDepth 100000 in
theorem wm_727 : Cond.methodLink RX10 1 ⟨"java/lang/Object", "<init>", "()V"⟩ ∈ pm_tbl := pm_m (lw_in3 (List.mem_of_getElem? (i := 206) rfl)) rfl
set_option maxRecDepth 100000 in
theorem wm_728 : Cond.fieldLink RX10 89 RX10 "finding" "I" ∈ pm_tbl := pm_m (lw_in3 (List.mem_of_getElem? (i := 207) rfl)) rfl
set_option maxRecDepth 100000 in
theorem wm_729 : Cond.fieldLink RX10 7 RX10 "findings" "[I" ∈ pm_tbl := pm_m (lw_in3 (List.mem_of_getElem? (i := 208) rfl)) rfl
set_option maxRecDepth 100000 in
theorem wm_730 : Cond.fieldLink RX10 210 RX10 "asked" "J" ∈ pm_tbl := pm_m (lw_in3 (List.mem_of_getElem? (i := 209) rfl)) rfl
set_option maxRecDepth 100000 in
theorem wm_731 : Cond.fieldLink RX10 96 RX10 "upper" "J" ∈ pm_tbl := pm_m (lw_in3 (List.mem_of_getElem? (i := 210) rfl)) rfl
set_option maxRecDepth 100000 in
theorem wm_732 : Cond.fieldLink RX10 13 RX10 "lower" "J" ∈ pm_tbl := pm_m (lw_in3 (List.mem_of_getElem? (i := 211) rfl)) rfl
set_option maxRecDepth 100000 in
theorem wm_733 : Cond.fieldLink RX10 99 RX10 "casters" "I" ∈ pm_tbl := pm_m (lw_in3 (List.mem_of_getElem? (i := 212) rfl)) rfl
set_option maxRecDepth 100000 in
theorem wm_734 : Cond.fieldLink RX10 17 RX10 "kinds" "[I" ∈ pm_tbl := pm_m (lw_in3 (List.mem_of_getElem? (i := 213) rfl)) rfl
set_option maxRecDepth 100000 in
theorem wm_735 : Cond.fieldLink RX10 20 RX10 "sticks" "[I" ∈ pm_tbl := pm_m (lw_in3 (List.mem_of_getElem? (i := 214) rfl)) rfl
set_option maxRecDepth 100000 in
theorem wm_736 : Cond.fieldLink RX10 23 RX10 "counts" "[I" ∈ pm_tbl := pm_m (lw_in3 (List.mem_of_getElem? (i := 215) rfl)) rfl
set_option maxRecDepth 100000 in
theorem wm_737 : Cond.fieldLink RX10 26 RX10 "hasFinger" "[Z" ∈ pm_tbl := pm_m (lw_in3 (List.mem_of_getElem? (i := 216) rfl)) rfl
set_option maxRecDepth 100000 in
theorem wm_738 : Cond.fieldLink RX10 30 RX10 "lows" "[I" ∈ pm_tbl := pm_m (lw_in3 (List.mem_of_getElem? (i := 217) rfl)) rfl
set_option maxRecDepth 100000 in
theorem wm_739 : Cond.fieldLink RX10 33 RX10 "highs" "[I" ∈ pm_tbl := pm_m (lw_in3 (List.mem_of_getElem? (i := 218) rfl)) rfl
set_option maxRecDepth 100000 in
theorem wm_740 : Cond.fieldLink RX10 36 RX10 "ups" "[J" ∈ pm_tbl := pm_m (lw_in3 (List.mem_of_getElem? (i := 219) rfl)) rfl
set_option maxRecDepth 100000 in
theorem wm_741 : Cond.fieldLink RX10 40 RX10 "lowers" "[J" ∈ pm_tbl := pm_m (lw_in3 (List.mem_of_getElem? (i := 220) rfl)) rfl
set_option maxRecDepth 100000 in
theorem wm_742 : Cond.fieldLink RX10 43 RX10 "nextUps" "[J" ∈ pm_tbl := pm_m (lw_in3 (List.mem_of_getElem? (i := 221) rfl)) rfl
set_option maxRecDepth 100000 in
theorem wm_743 : Cond.fieldLink RX10 46 RX10 "nextLowers" "[J" ∈ pm_tbl := pm_m (lw_in3 (List.mem_of_getElem? (i := 222) rfl)) rfl
set_option maxRecDepth 100000 in
theorem wm_744 : Cond.fieldLink RX10 49 RX10 "oddsUp" "[J" ∈ pm_tbl := pm_m (lw_in3 (List.mem_of_getElem? (i := 223) rfl)) rfl
set_option maxRecDepth 100000 in
theorem wm_745 : Cond.fieldLink RX10 52 RX10 "oddsLow" "[J" ∈ pm_tbl := pm_m (lw_in3 (List.mem_of_getElem? (i := 224) rfl)) rfl
set_option maxRecDepth 100000 in
theorem wm_746 : Cond.fieldLink RX10 142 RX10 "sumUp" "J" ∈ pm_tbl := pm_m (lw_in3 (List.mem_of_getElem? (i := 225) rfl)) rfl
set_option maxRecDepth 100000 in
theorem wm_747 : Cond.fieldLink RX10 145 RX10 "sumLow" "J" ∈ pm_tbl := pm_m (lw_in3 (List.mem_of_getElem? (i := 226) rfl)) rfl
set_option maxRecDepth 100000 in
theorem wm_748 : Cond.fieldLink RX10 170 RX10 "seed" "J" ∈ pm_tbl := pm_m (lw_in3 (List.mem_of_getElem? (i := 227) rfl)) rfl
set_option maxRecDepth 100000 in
theorem wm_749 : Cond.fieldLink RX10 55 RX10 "figures" "[I" ∈ pm_tbl := pm_m (lw_in3 (List.mem_of_getElem? (i := 228) rfl)) rfl
set_option maxRecDepth 100000 in
theorem wm_750 : Cond.fieldLink RX10 58 RX10 "six" "[I" ∈ pm_tbl := pm_m (lw_in3 (List.mem_of_getElem? (i := 229) rfl)) rfl
set_option maxRecDepth 100000 in
theorem wm_751 : Cond.fieldLink RX10 61 RX10 "far" "[I" ∈ pm_tbl := pm_m (lw_in3 (List.mem_of_getElem? (i := 230) rfl)) rfl
set_option maxRecDepth 100000 in
theorem wm_752 : Cond.fieldLink RX10 64 RX10 "steps" "I" ∈ pm_tbl := pm_m (lw_in3 (List.mem_of_getElem? (i := 231) rfl)) rfl
set_option maxRecDepth 100000 in
theorem wm_753 : Cond.fieldLink RX10 68 RX10 "stepRow" "[I" ∈ pm_tbl := pm_m (lw_in3 (List.mem_of_getElem? (i := 232) rfl)) rfl
set_option maxRecDepth 100000 in
theorem wm_754 : Cond.fieldLink RX10 71 RX10 "sizes" "[I" ∈ pm_tbl := pm_m (lw_in3 (List.mem_of_getElem? (i := 233) rfl)) rfl
set_option maxRecDepth 100000 in
theorem wm_755 : Cond.fieldLink RX10 74 RX10 "rows" "[I" ∈ pm_tbl := pm_m (lw_in3 (List.mem_of_getElem? (i := 234) rfl)) rfl
set_option maxRecDepth 100000 in
theorem wm_756 : Cond.fieldLink RX10 77 RX10 "moving" "[I" ∈ pm_tbl := pm_m (lw_in3 (List.mem_of_getElem? (i := 235) rfl)) rfl
set_option maxRecDepth 100000 in
theorem wm_757 : Cond.fieldLink RX10 80 RX10 "times" "[I" ∈ pm_tbl := pm_m (lw_in3 (List.mem_of_getElem? (i := 236) rfl)) rfl
set_option maxRecDepth 100000 in
theorem wm_758 : Cond.fieldLink RX10 219 RX10 "counted" "I" ∈ pm_tbl := pm_m (lw_in3 (List.mem_of_getElem? (i := 237) rfl)) rfl
set_option maxRecDepth 100000 in
theorem wm_759 : Cond.fieldLink RX10 83 RX10 "shares" "[I" ∈ pm_tbl := pm_m (lw_in3 (List.mem_of_getElem? (i := 238) rfl)) rfl
set_option maxRecDepth 100000 in
theorem wm_760 : Cond.fieldLink RX10 86 RX10 "held" "[I" ∈ pm_tbl := pm_m (lw_in3 (List.mem_of_getElem? (i := 239) rfl)) rfl
set_option maxRecDepth 100000 in
theorem wm_828 : Cond.arrayClass .boolean ∈ pm_tbl := pm_m (lw_in4 (List.mem_of_getElem? (i := 67) rfl)) rfl
set_option maxRecDepth 100000 in
theorem wm_829 : Cond.methodLink RL 17 yX10_caster ∈ pm_tbl := pm_m (lw_in4 (List.mem_of_getElem? (i := 68) rfl)) rfl
set_option maxRecDepth 100000 in
theorem wm_830 : Cond.instanceMethod yX10_caster ∈ pm_tbl := pm_m (lw_in4 (List.mem_of_getElem? (i := 69) rfl)) rfl
set_option maxRecDepth 100000 in
theorem wm_831 : Cond.selects RX10 yX10_caster yX10_caster ∈ pm_tbl := pm_m (lw_in4 (List.mem_of_getElem? (i := 70) rfl)) rfl
set_option maxRecDepth 100000 in
theorem wm_832 : Cond.code yX10_caster cX10_caster 2 (some .int) ∈ pm_tbl := pm_m (lw_in4 (List.mem_of_getElem? (i := 71) rfl)) rfl
set_option maxRecDepth 100000 in
theorem wm_833 : Cond.methodLink RX10 102 yX10_put ∈ pm_tbl := pm_m (lw_in4 (List.mem_of_getElem? (i := 72) rfl)) rfl
set_option maxRecDepth 100000 in
theorem wm_835 : Cond.instanceMethod yX10_put ∈ pm_tbl := pm_m (lw_in4 (List.mem_of_getElem? (i := 74) rfl)) rfl
set_option maxRecDepth 100000 in
theorem wm_836 : Cond.code yX10_put cX10_put 7 (some .int) ∈ pm_tbl := pm_m (lw_in4 (List.mem_of_getElem? (i := 75) rfl)) rfl
set_option maxRecDepth 100000 in
theorem wm_837 : Cond.methodLink RL 22 yX10_stalks ∈ pm_tbl := pm_m (lw_in4 (List.mem_of_getElem? (i := 76) rfl)) rfl
set_option maxRecDepth 100000 in
theorem wm_838 : Cond.instanceMethod yX10_stalks ∈ pm_tbl := pm_m (lw_in4 (List.mem_of_getElem? (i := 77) rfl)) rfl
set_option maxRecDepth 100000 in
theorem wm_839 : Cond.selects RX10 yX10_stalks yX10_stalks ∈ pm_tbl := pm_m (lw_in4 (List.mem_of_getElem? (i := 78) rfl)) rfl
set_option maxRecDepth 100000 in
theorem wm_840 : Cond.code yX10_stalks cX10_stalks 4 (some .int) ∈ pm_tbl := pm_m (lw_in4 (List.mem_of_getElem? (i := 79) rfl)) rfl
set_option maxRecDepth 100000 in
theorem wm_841 : Cond.methodLink RX10 110 yX10_areStalks ∈ pm_tbl := pm_m (lw_in4 (List.mem_of_getElem? (i := 80) rfl)) rfl
set_option maxRecDepth 100000 in
theorem wm_842 : Cond.static yX10_areStalks ∈ pm_tbl := pm_m (lw_in4 (List.mem_of_getElem? (i := 81) rfl)) rfl
set_option maxRecDepth 100000 in
theorem wm_843 : Cond.code yX10_areStalks cX10_areStalks 2 (some .boolean) ∈ pm_tbl := pm_m (lw_in4 (List.mem_of_getElem? (i := 82) rfl)) rfl
set_option maxRecDepth 100000 in
theorem wm_844 : Cond.methodLink RX10 106 yX10_in ∈ pm_tbl := pm_m (lw_in4 (List.mem_of_getElem? (i := 83) rfl)) rfl
set_option maxRecDepth 100000 in
theorem wm_845 : Cond.static yX10_in ∈ pm_tbl := pm_m (lw_in4 (List.mem_of_getElem? (i := 84) rfl)) rfl
set_option maxRecDepth 100000 in
theorem wm_846 : Cond.code yX10_in cX10_in 3 (some .boolean) ∈ pm_tbl := pm_m (lw_in4 (List.mem_of_getElem? (i := 85) rfl)) rfl
set_option maxRecDepth 100000 in
theorem wm_847 : Cond.methodLink RL 27 yX10_thumb ∈ pm_tbl := pm_m (lw_in4 (List.mem_of_getElem? (i := 86) rfl)) rfl
set_option maxRecDepth 100000 in
theorem wm_848 : Cond.instanceMethod yX10_thumb ∈ pm_tbl := pm_m (lw_in4 (List.mem_of_getElem? (i := 87) rfl)) rfl
set_option maxRecDepth 100000 in
theorem wm_849 : Cond.selects RX10 yX10_thumb yX10_thumb ∈ pm_tbl := pm_m (lw_in4 (List.mem_of_getElem? (i := 88) rfl)) rfl
set_option maxRecDepth 100000 in
theorem wm_850 : Cond.code yX10_thumb cX10_thumb 6 (some .int) ∈ pm_tbl := pm_m (lw_in4 (List.mem_of_getElem? (i := 89) rfl)) rfl
set_option maxRecDepth 100000 in
theorem wm_851 : Cond.methodLink RL 32 yX10_told ∈ pm_tbl := pm_m (lw_in4 (List.mem_of_getElem? (i := 90) rfl)) rfl
set_option maxRecDepth 100000 in
theorem wm_852 : Cond.instanceMethod yX10_told ∈ pm_tbl := pm_m (lw_in4 (List.mem_of_getElem? (i := 91) rfl)) rfl
set_option maxRecDepth 100000 in
theorem wm_853 : Cond.selects RX10 yX10_told yX10_told ∈ pm_tbl := pm_m (lw_in4 (List.mem_of_getElem? (i := 92) rfl)) rfl
set_option maxRecDepth 100000 in
theorem wm_854 : Cond.code yX10_told cX10_told 3 (some .int) ∈ pm_tbl := pm_m (lw_in4 (List.mem_of_getElem? (i := 93) rfl)) rfl
set_option maxRecDepth 100000 in
theorem wm_855 : Cond.methodLink RX10 118 yX10_isCaster ∈ pm_tbl := pm_m (lw_in4 (List.mem_of_getElem? (i := 94) rfl)) rfl
set_option maxRecDepth 100000 in
theorem wm_857 : Cond.instanceMethod yX10_isCaster ∈ pm_tbl := pm_m (lw_in4 (List.mem_of_getElem? (i := 96) rfl)) rfl
set_option maxRecDepth 100000 in
theorem wm_858 : Cond.code yX10_isCaster cX10_isCaster 2 (some .boolean) ∈ pm_tbl := pm_m (lw_in4 (List.mem_of_getElem? (i := 97) rfl)) rfl
set_option maxRecDepth 100000 in
theorem wm_859 : Cond.methodLink RX10 121 yX10_tells ∈ pm_tbl := pm_m (lw_in4 (List.mem_of_getElem? (i := 98) rfl)) rfl
set_option maxRecDepth 100000 in
theorem wm_861 : Cond.instanceMethod yX10_tells ∈ pm_tbl := pm_m (lw_in4 (List.mem_of_getElem? (i := 100) rfl)) rfl
set_option maxRecDepth 100000 in
theorem wm_862 : Cond.code yX10_tells cX10_tells 3 (some .int) ∈ pm_tbl := pm_m (lw_in4 (List.mem_of_getElem? (i := 101) rfl)) rfl
set_option maxRecDepth 100000 in
theorem wm_863 : Cond.methodLink RX10 114 yX10_parts ∈ pm_tbl := pm_m (lw_in4 (List.mem_of_getElem? (i := 102) rfl)) rfl
set_option maxRecDepth 100000 in
theorem wm_865 : Cond.instanceMethod yX10_parts ∈ pm_tbl := pm_m (lw_in4 (List.mem_of_getElem? (i := 104) rfl)) rfl
set_option maxRecDepth 100000 in
theorem wm_866 : Cond.code yX10_parts cX10_parts 2 (some .boolean) ∈ pm_tbl := pm_m (lw_in4 (List.mem_of_getElem? (i := 105) rfl)) rfl
set_option maxRecDepth 100000 in
theorem wm_867 : Cond.methodLink RL 36 yX10_mark ∈ pm_tbl := pm_m (lw_in4 (List.mem_of_getElem? (i := 106) rfl)) rfl
set_option maxRecDepth 100000 in
theorem wm_868 : Cond.instanceMethod yX10_mark ∈ pm_tbl := pm_m (lw_in4 (List.mem_of_getElem? (i := 107) rfl)) rfl
set_option maxRecDepth 100000 in
theorem wm_869 : Cond.selects RX10 yX10_mark yX10_mark ∈ pm_tbl := pm_m (lw_in4 (List.mem_of_getElem? (i := 108) rfl)) rfl
set_option maxRecDepth 100000 in
theorem wm_870 : Cond.code yX10_mark cX10_mark 3 (some .int) ∈ pm_tbl := pm_m (lw_in4 (List.mem_of_getElem? (i := 109) rfl)) rfl
set_option maxRecDepth 100000 in
theorem wm_871 : Cond.methodLink RX10 131 yX10_meets ∈ pm_tbl := pm_m (lw_in4 (List.mem_of_getElem? (i := 110) rfl)) rfl
set_option maxRecDepth 100000 in
theorem wm_873 : Cond.instanceMethod yX10_meets ∈ pm_tbl := pm_m (lw_in4 (List.mem_of_getElem? (i := 112) rfl)) rfl
set_option maxRecDepth 100000 in
theorem wm_874 : Cond.code yX10_meets cX10_meets 2 (some .int) ∈ pm_tbl := pm_m (lw_in4 (List.mem_of_getElem? (i := 113) rfl)) rfl
set_option maxRecDepth 100000 in
theorem wm_875 : Cond.methodLink RX10 135 yX10_left ∈ pm_tbl := pm_m (lw_in4 (List.mem_of_getElem? (i := 114) rfl)) rfl
set_option maxRecDepth 100000 in
theorem wm_877 : Cond.instanceMethod yX10_left ∈ pm_tbl := pm_m (lw_in4 (List.mem_of_getElem? (i := 116) rfl)) rfl
set_option maxRecDepth 100000 in
theorem wm_878 : Cond.code yX10_left cX10_left 5 (some .int) ∈ pm_tbl := pm_m (lw_in4 (List.mem_of_getElem? (i := 117) rfl)) rfl
set_option maxRecDepth 100000 in
theorem wm_879 : Cond.methodLink RX10 125 yX10_rest ∈ pm_tbl := pm_m (lw_in4 (List.mem_of_getElem? (i := 118) rfl)) rfl
set_option maxRecDepth 100000 in
theorem wm_880 : Cond.static yX10_rest ∈ pm_tbl := pm_m (lw_in4 (List.mem_of_getElem? (i := 119) rfl)) rfl
set_option maxRecDepth 100000 in
theorem wm_881 : Cond.code yX10_rest cX10_rest 2 (some .int) ∈ pm_tbl := pm_m (lw_in4 (List.mem_of_getElem? (i := 120) rfl)) rfl
set_option maxRecDepth 100000 in
theorem wm_882 : Cond.methodLink RX10 139 yX10_places ∈ pm_tbl := pm_m (lw_in4 (List.mem_of_getElem? (i := 121) rfl)) rfl
set_option maxRecDepth 100000 in
theorem wm_884 : Cond.instanceMethod yX10_places ∈ pm_tbl := pm_m (lw_in4 (List.mem_of_getElem? (i := 123) rfl)) rfl
set_option maxRecDepth 100000 in
theorem wm_885 : Cond.code yX10_places cX10_places 4 (some .int) ∈ pm_tbl := pm_m (lw_in4 (List.mem_of_getElem? (i := 124) rfl)) rfl
set_option maxRecDepth 100000 in
theorem wm_886 : Cond.methodLink RX10 128 yX10_first ∈ pm_tbl := pm_m (lw_in4 (List.mem_of_getElem? (i := 125) rfl)) rfl
set_option maxRecDepth 100000 in
theorem wm_888 : Cond.instanceMethod yX10_first ∈ pm_tbl := pm_m (lw_in4 (List.mem_of_getElem? (i := 127) rfl)) rfl
set_option maxRecDepth 100000 in
theorem wm_889 : Cond.code yX10_first cX10_first 3 (some .int) ∈ pm_tbl := pm_m (lw_in4 (List.mem_of_getElem? (i := 128) rfl)) rfl
set_option maxRecDepth 100000 in
theorem wm_890 : Cond.methodLink RL 41 yX10_part ∈ pm_tbl := pm_m (lw_in4 (List.mem_of_getElem? (i := 129) rfl)) rfl
set_option maxRecDepth 100000 in
theorem wm_891 : Cond.instanceMethod yX10_part ∈ pm_tbl := pm_m (lw_in4 (List.mem_of_getElem? (i := 130) rfl)) rfl
set_option maxRecDepth 100000 in
theorem wm_892 : Cond.selects RX10 yX10_part yX10_part ∈ pm_tbl := pm_m (lw_in4 (List.mem_of_getElem? (i := 131) rfl)) rfl
set_option maxRecDepth 100000 in
theorem wm_893 : Cond.code yX10_part cX10_part 4 (some .int) ∈ pm_tbl := pm_m (lw_in4 (List.mem_of_getElem? (i := 132) rfl)) rfl
set_option maxRecDepth 100000 in
theorem wm_894 : Cond.methodLink RL 46 yX10_line ∈ pm_tbl := pm_m (lw_in4 (List.mem_of_getElem? (i := 133) rfl)) rfl
set_option maxRecDepth 100000 in
theorem wm_895 : Cond.instanceMethod yX10_line ∈ pm_tbl := pm_m (lw_in4 (List.mem_of_getElem? (i := 134) rfl)) rfl
set_option maxRecDepth 100000 in
theorem wm_896 : Cond.selects RX10 yX10_line yX10_line ∈ pm_tbl := pm_m (lw_in4 (List.mem_of_getElem? (i := 135) rfl)) rfl
set_option maxRecDepth 100000 in
theorem wm_897 : Cond.code yX10_line cX10_line 8 (some .int) ∈ pm_tbl := pm_m (lw_in4 (List.mem_of_getElem? (i := 136) rfl)) rfl
set_option maxRecDepth 100000 in
theorem wm_898 : Cond.methodLink RL 50 yX10_odds ∈ pm_tbl := pm_m (lw_in4 (List.mem_of_getElem? (i := 137) rfl)) rfl
set_option maxRecDepth 100000 in
theorem wm_899 : Cond.instanceMethod yX10_odds ∈ pm_tbl := pm_m (lw_in4 (List.mem_of_getElem? (i := 138) rfl)) rfl
set_option maxRecDepth 100000 in
theorem wm_900 : Cond.selects RX10 yX10_odds yX10_odds ∈ pm_tbl := pm_m (lw_in4 (List.mem_of_getElem? (i := 139) rfl)) rfl
set_option maxRecDepth 100000 in
theorem wm_901 : Cond.code yX10_odds cX10_odds 3 (some .int) ∈ pm_tbl := pm_m (lw_in4 (List.mem_of_getElem? (i := 140) rfl)) rfl
set_option maxRecDepth 100000 in
theorem wm_902 : Cond.methodLink RX10 163 yX10_setOdds ∈ pm_tbl := pm_m (lw_in4 (List.mem_of_getElem? (i := 141) rfl)) rfl
set_option maxRecDepth 100000 in
theorem wm_904 : Cond.instanceMethod yX10_setOdds ∈ pm_tbl := pm_m (lw_in4 (List.mem_of_getElem? (i := 143) rfl)) rfl
set_option maxRecDepth 100000 in
theorem wm_905 : Cond.code yX10_setOdds cX10_setOdds 4 none ∈ pm_tbl := pm_m (lw_in4 (List.mem_of_getElem? (i := 144) rfl)) rfl
set_option maxRecDepth 100000 in
theorem wm_906 : Cond.methodLink RX10 148 yX10_clearOdds ∈ pm_tbl := pm_m (lw_in4 (List.mem_of_getElem? (i := 145) rfl)) rfl
set_option maxRecDepth 100000 in
theorem wm_908 : Cond.instanceMethod yX10_clearOdds ∈ pm_tbl := pm_m (lw_in4 (List.mem_of_getElem? (i := 147) rfl)) rfl
set_option maxRecDepth 100000 in
theorem wm_909 : Cond.code yX10_clearOdds cX10_clearOdds 2 none ∈ pm_tbl := pm_m (lw_in4 (List.mem_of_getElem? (i := 148) rfl)) rfl
set_option maxRecDepth 100000 in
theorem wm_910 : Cond.constantLong RX10 151 (3) ∈ pm_tbl := pm_m (lw_in4 (List.mem_of_getElem? (i := 149) rfl)) rfl
set_option maxRecDepth 100000 in
theorem wm_911 : Cond.constantLong RX10 153 (8) ∈ pm_tbl := pm_m (lw_in4 (List.mem_of_getElem? (i := 150) rfl)) rfl
set_option maxRecDepth 100000 in
theorem wm_912 : Cond.methodLink RX10 155 yX10_partAll ∈ pm_tbl := pm_m (lw_in4 (List.mem_of_getElem? (i := 151) rfl)) rfl
set_option maxRecDepth 100000 in
theorem wm_914 : Cond.instanceMethod yX10_partAll ∈ pm_tbl := pm_m (lw_in4 (List.mem_of_getElem? (i := 153) rfl)) rfl
set_option maxRecDepth 100000 in
theorem wm_915 : Cond.code yX10_partAll cX10_partAll 8 none ∈ pm_tbl := pm_m (lw_in4 (List.mem_of_getElem? (i := 154) rfl)) rfl
set_option maxRecDepth 100000 in
theorem wm_916 : Cond.methodLink RX10 92 yX10_divisor ∈ pm_tbl := pm_m (lw_in4 (List.mem_of_getElem? (i := 155) rfl)) rfl
set_option maxRecDepth 100000 in
theorem wm_917 : Cond.static yX10_divisor ∈ pm_tbl := pm_m (lw_in4 (List.mem_of_getElem? (i := 156) rfl)) rfl
set_option maxRecDepth 100000 in
theorem wm_918 : Cond.code yX10_divisor cX10_divisor 10 (some .long) ∈ pm_tbl := pm_m (lw_in4 (List.mem_of_getElem? (i := 157) rfl)) rfl
set_option maxRecDepth 100000 in
theorem wm_919 : Cond.methodLink RX10 159 yX10_add ∈ pm_tbl := pm_m (lw_in4 (List.mem_of_getElem? (i := 158) rfl)) rfl
set_option maxRecDepth 100000 in
theorem wm_921 : Cond.instanceMethod yX10_add ∈ pm_tbl := pm_m (lw_in4 (List.mem_of_getElem? (i := 160) rfl)) rfl
set_option maxRecDepth 100000 in
theorem wm_922 : Cond.code yX10_add cX10_add 17 none ∈ pm_tbl := pm_m (lw_in4 (List.mem_of_getElem? (i := 161) rfl)) rfl
set_option maxRecDepth 100000 in
theorem wm_923 : Cond.methodLink RX10 166 yX10_tell ∈ pm_tbl := pm_m (lw_in4 (List.mem_of_getElem? (i := 162) rfl)) rfl
set_option maxRecDepth 100000 in
theorem wm_925 : Cond.instanceMethod yX10_tell ∈ pm_tbl := pm_m (lw_in4 (List.mem_of_getElem? (i := 164) rfl)) rfl
set_option maxRecDepth 100000 in
theorem wm_926 : Cond.code yX10_tell cX10_tell 7 (some .int) ∈ pm_tbl := pm_m (lw_in4 (List.mem_of_getElem? (i := 165) rfl)) rfl
set_option maxRecDepth 100000 in
theorem wm_927 : Cond.methodLink RL 55 yX10_mean ∈ pm_tbl := pm_m (lw_in4 (List.mem_of_getElem? (i := 166) rfl)) rfl
set_option maxRecDepth 100000 in
theorem wm_928 : Cond.instanceMethod yX10_mean ∈ pm_tbl := pm_m (lw_in4 (List.mem_of_getElem? (i := 167) rfl)) rfl
set_option maxRecDepth 100000 in
theorem wm_929 : Cond.selects RX10 yX10_mean yX10_mean ∈ pm_tbl := pm_m (lw_in4 (List.mem_of_getElem? (i := 168) rfl)) rfl
set_option maxRecDepth 100000 in
theorem wm_930 : Cond.code yX10_mean cX10_mean 3 (some .int) ∈ pm_tbl := pm_m (lw_in4 (List.mem_of_getElem? (i := 169) rfl)) rfl
set_option maxRecDepth 100000 in
theorem wm_931 : Cond.methodLink RL 62 yX10_drawn ∈ pm_tbl := pm_m (lw_in4 (List.mem_of_getElem? (i := 170) rfl)) rfl
set_option maxRecDepth 100000 in
theorem wm_932 : Cond.instanceMethod yX10_drawn ∈ pm_tbl := pm_m (lw_in4 (List.mem_of_getElem? (i := 171) rfl)) rfl
set_option maxRecDepth 100000 in
theorem wm_933 : Cond.selects RX10 yX10_drawn yX10_drawn ∈ pm_tbl := pm_m (lw_in4 (List.mem_of_getElem? (i := 172) rfl)) rfl
set_option maxRecDepth 100000 in
theorem wm_934 : Cond.code yX10_drawn cX10_drawn 4 (some .int) ∈ pm_tbl := pm_m (lw_in4 (List.mem_of_getElem? (i := 173) rfl)) rfl
set_option maxRecDepth 100000 in
theorem wm_935 : Cond.methodLink RX10 180 yX10_draws ∈ pm_tbl := pm_m (lw_in4 (List.mem_of_getElem? (i := 174) rfl)) rfl
set_option maxRecDepth 100000 in
theorem wm_937 : Cond.instanceMethod yX10_draws ∈ pm_tbl := pm_m (lw_in4 (List.mem_of_getElem? (i := 176) rfl)) rfl
set_option maxRecDepth 100000 in
theorem wm_938 : Cond.code yX10_draws cX10_draws 4 (some .int) ∈ pm_tbl := pm_m (lw_in4 (List.mem_of_getElem? (i := 177) rfl)) rfl
set_option maxRecDepth 100000 in
theorem wm_939 : Cond.methodLink RX10 177 yX10_under ∈ pm_tbl := pm_m (lw_in4 (List.mem_of_getElem? (i := 178) rfl)) rfl
set_option maxRecDepth 100000 in
theorem wm_941 : Cond.instanceMethod yX10_under ∈ pm_tbl := pm_m (lw_in4 (List.mem_of_getElem? (i := 180) rfl)) rfl
set_option maxRecDepth 100000 in
theorem wm_942 : Cond.code yX10_under cX10_under 2 (some .int) ∈ pm_tbl := pm_m (lw_in4 (List.mem_of_getElem? (i := 181) rfl)) rfl
set_option maxRecDepth 100000 in
theorem wm_943 : Cond.constantLong RX10 173 (6364136223846793005) ∈ pm_tbl := pm_m (lw_in4 (List.mem_of_getElem? (i := 182) rfl)) rfl
set_option maxRecDepth 100000 in
theorem wm_944 : Cond.constantLong RX10 175 (1442695040888963407) ∈ pm_tbl := pm_m (lw_in4 (List.mem_of_getElem? (i := 183) rfl)) rfl
set_option maxRecDepth 100000 in
theorem wm_945 : Cond.methodLink RL 66 yX10_set ∈ pm_tbl := pm_m (lw_in4 (List.mem_of_getElem? (i := 184) rfl)) rfl
set_option maxRecDepth 100000 in
theorem wm_946 : Cond.instanceMethod yX10_set ∈ pm_tbl := pm_m (lw_in4 (List.mem_of_getElem? (i := 185) rfl)) rfl
set_option maxRecDepth 100000 in
theorem wm_947 : Cond.selects RX10 yX10_set yX10_set ∈ pm_tbl := pm_m (lw_in4 (List.mem_of_getElem? (i := 186) rfl)) rfl
set_option maxRecDepth 100000 in
theorem wm_948 : Cond.code yX10_set cX10_set 5 (some .int) ∈ pm_tbl := pm_m (lw_in4 (List.mem_of_getElem? (i := 187) rfl)) rfl
set_option maxRecDepth 100000 in
theorem wm_949 : Cond.methodLink RX10 183 yX10_isFigure ∈ pm_tbl := pm_m (lw_in4 (List.mem_of_getElem? (i := 188) rfl)) rfl
set_option maxRecDepth 100000 in
theorem wm_950 : Cond.static yX10_isFigure ∈ pm_tbl := pm_m (lw_in4 (List.mem_of_getElem? (i := 189) rfl)) rfl
set_option maxRecDepth 100000 in
theorem wm_951 : Cond.code yX10_isFigure cX10_isFigure 1 (some .boolean) ∈ pm_tbl := pm_m (lw_in4 (List.mem_of_getElem? (i := 190) rfl)) rfl
set_option maxRecDepth 100000 in
theorem wm_952 : Cond.methodLink RL 70 yX10_get ∈ pm_tbl := pm_m (lw_in4 (List.mem_of_getElem? (i := 191) rfl)) rfl
set_option maxRecDepth 100000 in
theorem wm_953 : Cond.instanceMethod yX10_get ∈ pm_tbl := pm_m (lw_in4 (List.mem_of_getElem? (i := 192) rfl)) rfl
set_option maxRecDepth 100000 in
theorem wm_954 : Cond.selects RX10 yX10_get yX10_get ∈ pm_tbl := pm_m (lw_in4 (List.mem_of_getElem? (i := 193) rfl)) rfl
set_option maxRecDepth 100000 in
theorem wm_955 : Cond.code yX10_get cX10_get 3 (some .int) ∈ pm_tbl := pm_m (lw_in4 (List.mem_of_getElem? (i := 194) rfl)) rfl
set_option maxRecDepth 100000 in
theorem wm_956 : Cond.methodLink RL 75 yX10_draw ∈ pm_tbl := pm_m (lw_in4 (List.mem_of_getElem? (i := 195) rfl)) rfl
set_option maxRecDepth 100000 in
theorem wm_957 : Cond.instanceMethod yX10_draw ∈ pm_tbl := pm_m (lw_in4 (List.mem_of_getElem? (i := 196) rfl)) rfl
set_option maxRecDepth 100000 in
theorem wm_958 : Cond.selects RX10 yX10_draw yX10_draw ∈ pm_tbl := pm_m (lw_in4 (List.mem_of_getElem? (i := 197) rfl)) rfl
set_option maxRecDepth 100000 in
theorem wm_959 : Cond.code yX10_draw cX10_draw 8 (some .int) ∈ pm_tbl := pm_m (lw_in4 (List.mem_of_getElem? (i := 198) rfl)) rfl
set_option maxRecDepth 100000 in
theorem wm_960 : Cond.methodLink RL 79 yX10_number ∈ pm_tbl := pm_m (lw_in4 (List.mem_of_getElem? (i := 199) rfl)) rfl
set_option maxRecDepth 100000 in
theorem wm_961 : Cond.instanceMethod yX10_number ∈ pm_tbl := pm_m (lw_in4 (List.mem_of_getElem? (i := 200) rfl)) rfl
set_option maxRecDepth 100000 in
theorem wm_962 : Cond.selects RX10 yX10_number yX10_number ∈ pm_tbl := pm_m (lw_in4 (List.mem_of_getElem? (i := 201) rfl)) rfl
set_option maxRecDepth 100000 in
theorem wm_963 : Cond.code yX10_number cX10_number 2 (some .int) ∈ pm_tbl := pm_m (lw_in4 (List.mem_of_getElem? (i := 202) rfl)) rfl
set_option maxRecDepth 100000 in
theorem wm_964 : Cond.methodLink RX10 186 yX10_numberOf ∈ pm_tbl := pm_m (lw_in4 (List.mem_of_getElem? (i := 203) rfl)) rfl
set_option maxRecDepth 100000 in
theorem wm_966 : Cond.instanceMethod yX10_numberOf ∈ pm_tbl := pm_m (lw_in4 (List.mem_of_getElem? (i := 205) rfl)) rfl
set_option maxRecDepth 100000 in
theorem wm_967 : Cond.code yX10_numberOf cX10_numberOf 4 (some .int) ∈ pm_tbl := pm_m (lw_in4 (List.mem_of_getElem? (i := 206) rfl)) rfl
set_option maxRecDepth 100000 in
theorem wm_968 : Cond.methodLink RL 83 yX10_act ∈ pm_tbl := pm_m (lw_in4 (List.mem_of_getElem? (i := 207) rfl)) rfl
set_option maxRecDepth 100000 in
theorem wm_969 : Cond.instanceMethod yX10_act ∈ pm_tbl := pm_m (lw_in4 (List.mem_of_getElem? (i := 208) rfl)) rfl
set_option maxRecDepth 100000 in
theorem wm_970 : Cond.selects RX10 yX10_act yX10_act ∈ pm_tbl := pm_m (lw_in4 (List.mem_of_getElem? (i := 209) rfl)) rfl
set_option maxRecDepth 100000 in
theorem wm_971 : Cond.code yX10_act cX10_act 6 (some .int) ∈ pm_tbl := pm_m (lw_in4 (List.mem_of_getElem? (i := 210) rfl)) rfl
set_option maxRecDepth 100000 in
theorem wm_972 : Cond.methodLink RX10 189 yX10_nestedAt ∈ pm_tbl := pm_m (lw_in4 (List.mem_of_getElem? (i := 211) rfl)) rfl
set_option maxRecDepth 100000 in
theorem wm_973 : Cond.static yX10_nestedAt ∈ pm_tbl := pm_m (lw_in4 (List.mem_of_getElem? (i := 212) rfl)) rfl
set_option maxRecDepth 100000 in
theorem wm_974 : Cond.code yX10_nestedAt cX10_nestedAt 1 (some .int) ∈ pm_tbl := pm_m (lw_in4 (List.mem_of_getElem? (i := 213) rfl)) rfl
set_option maxRecDepth 100000 in
theorem wm_975 : Cond.methodLink RL 87 yX10_way ∈ pm_tbl := pm_m (lw_in4 (List.mem_of_getElem? (i := 214) rfl)) rfl
set_option maxRecDepth 100000 in
theorem wm_976 : Cond.instanceMethod yX10_way ∈ pm_tbl := pm_m (lw_in4 (List.mem_of_getElem? (i := 215) rfl)) rfl
set_option maxRecDepth 100000 in
theorem wm_977 : Cond.selects RX10 yX10_way yX10_way ∈ pm_tbl := pm_m (lw_in4 (List.mem_of_getElem? (i := 216) rfl)) rfl
set_option maxRecDepth 100000 in
theorem wm_978 : Cond.code yX10_way cX10_way 8 (some .int) ∈ pm_tbl := pm_m (lw_in4 (List.mem_of_getElem? (i := 217) rfl)) rfl
set_option maxRecDepth 100000 in
theorem wm_979 : Cond.methodLink RX10 195 yX10_after ∈ pm_tbl := pm_m (lw_in4 (List.mem_of_getElem? (i := 218) rfl)) rfl
set_option maxRecDepth 100000 in
theorem wm_980 : Cond.static yX10_after ∈ pm_tbl := pm_m (lw_in4 (List.mem_of_getElem? (i := 219) rfl)) rfl
set_option maxRecDepth 100000 in
theorem wm_981 : Cond.code yX10_after cX10_after 4 (some .int) ∈ pm_tbl := pm_m (lw_in4 (List.mem_of_getElem? (i := 220) rfl)) rfl
set_option maxRecDepth 100000 in
theorem wm_982 : Cond.methodLink RX10 192 yX10_turned ∈ pm_tbl := pm_m (lw_in4 (List.mem_of_getElem? (i := 221) rfl)) rfl
set_option maxRecDepth 100000 in
theorem wm_983 : Cond.static yX10_turned ∈ pm_tbl := pm_m (lw_in4 (List.mem_of_getElem? (i := 222) rfl)) rfl
set_option maxRecDepth 100000 in
theorem wm_984 : Cond.code yX10_turned cX10_turned 3 (some .int) ∈ pm_tbl := pm_m (lw_in4 (List.mem_of_getElem? (i := 223) rfl)) rfl
set_option maxRecDepth 100000 in
theorem wm_985 : Cond.methodLink RL 91 yX10_step ∈ pm_tbl := pm_m (lw_in4 (List.mem_of_getElem? (i := 224) rfl)) rfl
set_option maxRecDepth 100000 in
theorem wm_986 : Cond.instanceMethod yX10_step ∈ pm_tbl := pm_m (lw_in4 (List.mem_of_getElem? (i := 225) rfl)) rfl
set_option maxRecDepth 100000 in
theorem wm_987 : Cond.selects RX10 yX10_step yX10_step ∈ pm_tbl := pm_m (lw_in4 (List.mem_of_getElem? (i := 226) rfl)) rfl
set_option maxRecDepth 100000 in
theorem wm_988 : Cond.code yX10_step cX10_step 2 (some .int) ∈ pm_tbl := pm_m (lw_in4 (List.mem_of_getElem? (i := 227) rfl)) rfl
set_option maxRecDepth 100000 in
theorem wm_989 : Cond.methodLink RL 95 yX10_row ∈ pm_tbl := pm_m (lw_in4 (List.mem_of_getElem? (i := 228) rfl)) rfl
set_option maxRecDepth 100000 in
theorem wm_990 : Cond.instanceMethod yX10_row ∈ pm_tbl := pm_m (lw_in4 (List.mem_of_getElem? (i := 229) rfl)) rfl
set_option maxRecDepth 100000 in
theorem wm_991 : Cond.selects RX10 yX10_row yX10_row ∈ pm_tbl := pm_m (lw_in4 (List.mem_of_getElem? (i := 230) rfl)) rfl
set_option maxRecDepth 100000 in
theorem wm_992 : Cond.code yX10_row cX10_row 4 (some .int) ∈ pm_tbl := pm_m (lw_in4 (List.mem_of_getElem? (i := 231) rfl)) rfl
set_option maxRecDepth 100000 in
theorem wm_993 : Cond.methodLink RX10 198 yX10_isRow ∈ pm_tbl := pm_m (lw_in4 (List.mem_of_getElem? (i := 232) rfl)) rfl
set_option maxRecDepth 100000 in
theorem wm_994 : Cond.static yX10_isRow ∈ pm_tbl := pm_m (lw_in4 (List.mem_of_getElem? (i := 233) rfl)) rfl
set_option maxRecDepth 100000 in
theorem wm_995 : Cond.code yX10_isRow cX10_isRow 1 (some .boolean) ∈ pm_tbl := pm_m (lw_in4 (List.mem_of_getElem? (i := 234) rfl)) rfl
set_option maxRecDepth 100000 in
theorem wm_996 : Cond.methodLink RL 99 yX10_lay ∈ pm_tbl := pm_m (lw_in4 (List.mem_of_getElem? (i := 235) rfl)) rfl
set_option maxRecDepth 100000 in
theorem wm_997 : Cond.instanceMethod yX10_lay ∈ pm_tbl := pm_m (lw_in4 (List.mem_of_getElem? (i := 236) rfl)) rfl
set_option maxRecDepth 100000 in
theorem wm_998 : Cond.selects RX10 yX10_lay yX10_lay ∈ pm_tbl := pm_m (lw_in4 (List.mem_of_getElem? (i := 237) rfl)) rfl
set_option maxRecDepth 100000 in
theorem wm_999 : Cond.code yX10_lay cX10_lay 6 (some .int) ∈ pm_tbl := pm_m (lw_in4 (List.mem_of_getElem? (i := 238) rfl)) rfl
set_option maxRecDepth 100000 in
theorem wm_1000 : Cond.methodLink RX10 201 yX10_looked ∈ pm_tbl := pm_m (lw_in4 (List.mem_of_getElem? (i := 239) rfl)) rfl
set_option maxRecDepth 100000 in
theorem wm_1002 : Cond.instanceMethod yX10_looked ∈ pm_tbl := pm_m (lw_in5 (List.mem_of_getElem? (i := 1) rfl)) rfl
set_option maxRecDepth 100000 in
theorem wm_1003 : Cond.code yX10_looked cX10_looked 2 (some .int) ∈ pm_tbl := pm_m (lw_in5 (List.mem_of_getElem? (i := 2) rfl)) rfl
set_option maxRecDepth 100000 in
theorem wm_1004 : Cond.methodLink RL 103 yX10_tear ∈ pm_tbl := pm_m (lw_in5 (List.mem_of_getElem? (i := 3) rfl)) rfl
set_option maxRecDepth 100000 in
theorem wm_1005 : Cond.instanceMethod yX10_tear ∈ pm_tbl := pm_m (lw_in5 (List.mem_of_getElem? (i := 4) rfl)) rfl
set_option maxRecDepth 100000 in
theorem wm_1006 : Cond.selects RX10 yX10_tear yX10_tear ∈ pm_tbl := pm_m (lw_in5 (List.mem_of_getElem? (i := 5) rfl)) rfl
set_option maxRecDepth 100000 in
theorem wm_1007 : Cond.code yX10_tear cX10_tear 3 (some .int) ∈ pm_tbl := pm_m (lw_in5 (List.mem_of_getElem? (i := 6) rfl)) rfl
set_option maxRecDepth 100000 in
theorem wm_1008 : Cond.methodLink RL 108 yX10_copy ∈ pm_tbl := pm_m (lw_in5 (List.mem_of_getElem? (i := 7) rfl)) rfl
set_option maxRecDepth 100000 in
theorem wm_1009 : Cond.instanceMethod yX10_copy ∈ pm_tbl := pm_m (lw_in5 (List.mem_of_getElem? (i := 8) rfl)) rfl
set_option maxRecDepth 100000 in
theorem wm_1010 : Cond.selects RX10 yX10_copy yX10_copy ∈ pm_tbl := pm_m (lw_in5 (List.mem_of_getElem? (i := 9) rfl)) rfl
set_option maxRecDepth 100000 in
theorem wm_1011 : Cond.code yX10_copy cX10_copy 7 (some .int) ∈ pm_tbl := pm_m (lw_in5 (List.mem_of_getElem? (i := 10) rfl)) rfl
set_option maxRecDepth 100000 in
theorem wm_1012 : Cond.methodLink RL 112 yX10_misfits ∈ pm_tbl := pm_m (lw_in5 (List.mem_of_getElem? (i := 11) rfl)) rfl
set_option maxRecDepth 100000 in
theorem wm_1013 : Cond.instanceMethod yX10_misfits ∈ pm_tbl := pm_m (lw_in5 (List.mem_of_getElem? (i := 12) rfl)) rfl
set_option maxRecDepth 100000 in
theorem wm_1014 : Cond.selects RX10 yX10_misfits yX10_misfits ∈ pm_tbl := pm_m (lw_in5 (List.mem_of_getElem? (i := 13) rfl)) rfl
set_option maxRecDepth 100000 in
theorem wm_1015 : Cond.code yX10_misfits cX10_misfits 4 (some .int) ∈ pm_tbl := pm_m (lw_in5 (List.mem_of_getElem? (i := 14) rfl)) rfl
set_option maxRecDepth 100000 in
theorem wm_1016 : Cond.methodLink RX10 207 yX10_misfitsOf ∈ pm_tbl := pm_m (lw_in5 (List.mem_of_getElem? (i := 15) rfl)) rfl
set_option maxRecDepth 100000 in
theorem wm_1018 : Cond.instanceMethod yX10_misfitsOf ∈ pm_tbl := pm_m (lw_in5 (List.mem_of_getElem? (i := 17) rfl)) rfl
set_option maxRecDepth 100000 in
theorem wm_1019 : Cond.code yX10_misfitsOf cX10_misfitsOf 8 (some .int) ∈ pm_tbl := pm_m (lw_in5 (List.mem_of_getElem? (i := 18) rfl)) rfl
set_option maxRecDepth 100000 in
theorem wm_1020 : Cond.methodLink RX10 204 yX10_leaf ∈ pm_tbl := pm_m (lw_in5 (List.mem_of_getElem? (i := 19) rfl)) rfl
set_option maxRecDepth 100000 in
theorem wm_1022 : Cond.instanceMethod yX10_leaf ∈ pm_tbl := pm_m (lw_in5 (List.mem_of_getElem? (i := 21) rfl)) rfl
set_option maxRecDepth 100000 in
theorem wm_1023 : Cond.code yX10_leaf cX10_leaf 3 (some .int) ∈ pm_tbl := pm_m (lw_in5 (List.mem_of_getElem? (i := 22) rfl)) rfl
set_option maxRecDepth 100000 in
theorem wm_1024 : Cond.methodLink RL 116 yX10_follows ∈ pm_tbl := pm_m (lw_in5 (List.mem_of_getElem? (i := 23) rfl)) rfl
set_option maxRecDepth 100000 in
theorem wm_1025 : Cond.instanceMethod yX10_follows ∈ pm_tbl := pm_m (lw_in5 (List.mem_of_getElem? (i := 24) rfl)) rfl
set_option maxRecDepth 100000 in
theorem wm_1026 : Cond.selects RX10 yX10_follows yX10_follows ∈ pm_tbl := pm_m (lw_in5 (List.mem_of_getElem? (i := 25) rfl)) rfl
set_option maxRecDepth 100000 in
theorem wm_1027 : Cond.code yX10_follows cX10_follows 5 (some .int) ∈ pm_tbl := pm_m (lw_in5 (List.mem_of_getElem? (i := 26) rfl)) rfl
set_option maxRecDepth 100000 in
theorem wm_1028 : Cond.methodLink RL 120 yX10_lacks ∈ pm_tbl := pm_m (lw_in5 (List.mem_of_getElem? (i := 27) rfl)) rfl
set_option maxRecDepth 100000 in
theorem wm_1029 : Cond.instanceMethod yX10_lacks ∈ pm_tbl := pm_m (lw_in5 (List.mem_of_getElem? (i := 28) rfl)) rfl
set_option maxRecDepth 100000 in
theorem wm_1030 : Cond.selects RX10 yX10_lacks yX10_lacks ∈ pm_tbl := pm_m (lw_in5 (List.mem_of_getElem? (i := 29) rfl)) rfl
set_option maxRecDepth 100000 in
theorem wm_1031 : Cond.code yX10_lacks cX10_lacks 8 (some .int) ∈ pm_tbl := pm_m (lw_in5 (List.mem_of_getElem? (i := 30) rfl)) rfl
set_option maxRecDepth 100000 in
theorem wm_1032 : Cond.constantLong RX10 213 (-1) ∈ pm_tbl := pm_m (lw_in5 (List.mem_of_getElem? (i := 31) rfl)) rfl
set_option maxRecDepth 100000 in
theorem wm_1033 : Cond.methodLink RL 124 yX10_swapped ∈ pm_tbl := pm_m (lw_in5 (List.mem_of_getElem? (i := 32) rfl)) rfl
set_option maxRecDepth 100000 in
theorem wm_1034 : Cond.instanceMethod yX10_swapped ∈ pm_tbl := pm_m (lw_in5 (List.mem_of_getElem? (i := 33) rfl)) rfl
set_option maxRecDepth 100000 in
theorem wm_1035 : Cond.selects RX10 yX10_swapped yX10_swapped ∈ pm_tbl := pm_m (lw_in5 (List.mem_of_getElem? (i := 34) rfl)) rfl
set_option maxRecDepth 100000 in
theorem wm_1036 : Cond.code yX10_swapped cX10_swapped 7 (some .int) ∈ pm_tbl := pm_m (lw_in5 (List.mem_of_getElem? (i := 35) rfl)) rfl
set_option maxRecDepth 100000 in
theorem wm_1037 : Cond.methodLink RX10 215 yX10_swap ∈ pm_tbl := pm_m (lw_in5 (List.mem_of_getElem? (i := 36) rfl)) rfl
set_option maxRecDepth 100000 in
theorem wm_1039 : Cond.instanceMethod yX10_swap ∈ pm_tbl := pm_m (lw_in5 (List.mem_of_getElem? (i := 38) rfl)) rfl
set_option maxRecDepth 100000 in
theorem wm_1040 : Cond.code yX10_swap cX10_swap 5 none ∈ pm_tbl := pm_m (lw_in5 (List.mem_of_getElem? (i := 39) rfl)) rfl
set_option maxRecDepth 100000 in
theorem wm_1041 : Cond.methodLink RL 129 yX10_record ∈ pm_tbl := pm_m (lw_in5 (List.mem_of_getElem? (i := 40) rfl)) rfl
set_option maxRecDepth 100000 in
theorem wm_1042 : Cond.instanceMethod yX10_record ∈ pm_tbl := pm_m (lw_in5 (List.mem_of_getElem? (i := 41) rfl)) rfl
set_option maxRecDepth 100000 in
theorem wm_1043 : Cond.selects RX10 yX10_record yX10_record ∈ pm_tbl := pm_m (lw_in5 (List.mem_of_getElem? (i := 42) rfl)) rfl
set_option maxRecDepth 100000 in
theorem wm_1044 : Cond.code yX10_record cX10_record 7 (some .int) ∈ pm_tbl := pm_m (lw_in5 (List.mem_of_getElem? (i := 43) rfl)) rfl
set_option maxRecDepth 100000 in
theorem wm_1045 : Cond.methodLink RL 133 yX10_off ∈ pm_tbl := pm_m (lw_in5 (List.mem_of_getElem? (i := 44) rfl)) rfl
set_option maxRecDepth 100000 in
theorem wm_1046 : Cond.instanceMethod yX10_off ∈ pm_tbl := pm_m (lw_in5 (List.mem_of_getElem? (i := 45) rfl)) rfl
set_option maxRecDepth 100000 in
theorem wm_1047 : Cond.selects RX10 yX10_off yX10_off ∈ pm_tbl := pm_m (lw_in5 (List.mem_of_getElem? (i := 46) rfl)) rfl
set_option maxRecDepth 100000 in
theorem wm_1048 : Cond.code yX10_off cX10_off 4 (some .int) ∈ pm_tbl := pm_m (lw_in5 (List.mem_of_getElem? (i := 47) rfl)) rfl
set_option maxRecDepth 100000 in
theorem wm_1049 : Cond.methodLink RX10 228 yX10_counts ∈ pm_tbl := pm_m (lw_in5 (List.mem_of_getElem? (i := 48) rfl)) rfl
set_option maxRecDepth 100000 in
theorem wm_1051 : Cond.instanceMethod yX10_counts ∈ pm_tbl := pm_m (lw_in5 (List.mem_of_getElem? (i := 50) rfl)) rfl
set_option maxRecDepth 100000 in
theorem wm_1052 : Cond.code yX10_counts cX10_counts 4 (some .boolean) ∈ pm_tbl := pm_m (lw_in5 (List.mem_of_getElem? (i := 51) rfl)) rfl
set_option maxRecDepth 100000 in
theorem wm_1053 : Cond.methodLink RX10 230 yX10_offOf ∈ pm_tbl := pm_m (lw_in5 (List.mem_of_getElem? (i := 52) rfl)) rfl
set_option maxRecDepth 100000 in
theorem wm_1055 : Cond.instanceMethod yX10_offOf ∈ pm_tbl := pm_m (lw_in5 (List.mem_of_getElem? (i := 54) rfl)) rfl
set_option maxRecDepth 100000 in
theorem wm_1056 : Cond.code yX10_offOf cX10_offOf 5 (some .int) ∈ pm_tbl := pm_m (lw_in5 (List.mem_of_getElem? (i := 55) rfl)) rfl
set_option maxRecDepth 100000 in
theorem wm_1057 : Cond.methodLink RX10 224 yX10_setShares ∈ pm_tbl := pm_m (lw_in5 (List.mem_of_getElem? (i := 56) rfl)) rfl
set_option maxRecDepth 100000 in
theorem wm_1059 : Cond.instanceMethod yX10_setShares ∈ pm_tbl := pm_m (lw_in5 (List.mem_of_getElem? (i := 58) rfl)) rfl
set_option maxRecDepth 100000 in
theorem wm_1060 : Cond.code yX10_setShares cX10_setShares 7 none ∈ pm_tbl := pm_m (lw_in5 (List.mem_of_getElem? (i := 59) rfl)) rfl
set_option maxRecDepth 100000 in
theorem wm_1061 : Cond.constantLong RX10 222 (10) ∈ pm_tbl := pm_m (lw_in5 (List.mem_of_getElem? (i := 60) rfl)) rfl
set_option maxRecDepth 100000 in
theorem wm_1062 : Cond.constant RX10 227 (1000000) ∈ pm_tbl := pm_m (lw_in5 (List.mem_of_getElem? (i := 61) rfl)) rfl
set_option maxRecDepth 100000 in
theorem wm_1063 : Cond.methodLink RL 137 yX10_nearest ∈ pm_tbl := pm_m (lw_in5 (List.mem_of_getElem? (i := 62) rfl)) rfl
set_option maxRecDepth 100000 in
theorem wm_1064 : Cond.instanceMethod yX10_nearest ∈ pm_tbl := pm_m (lw_in5 (List.mem_of_getElem? (i := 63) rfl)) rfl
set_option maxRecDepth 100000 in
theorem wm_1065 : Cond.selects RX10 yX10_nearest yX10_nearest ∈ pm_tbl := pm_m (lw_in5 (List.mem_of_getElem? (i := 64) rfl)) rfl
set_option maxRecDepth 100000 in
theorem wm_1066 : Cond.code yX10_nearest cX10_nearest 7 (some .int) ∈ pm_tbl := pm_m (lw_in5 (List.mem_of_getElem? (i := 65) rfl)) rfl
set_option maxRecDepth 100000 in
theorem wm_1067 : Cond.methodLink RL 141 yX10_lost ∈ pm_tbl := pm_m (lw_in5 (List.mem_of_getElem? (i := 66) rfl)) rfl
set_option maxRecDepth 100000 in
theorem wm_1068 : Cond.instanceMethod yX10_lost ∈ pm_tbl := pm_m (lw_in5 (List.mem_of_getElem? (i := 67) rfl)) rfl
set_option maxRecDepth 100000 in
theorem wm_1069 : Cond.selects RX10 yX10_lost yX10_lost ∈ pm_tbl := pm_m (lw_in5 (List.mem_of_getElem? (i := 68) rfl)) rfl
set_option maxRecDepth 100000 in
theorem wm_1070 : Cond.code yX10_lost cX10_lost 9 (some .int) ∈ pm_tbl := pm_m (lw_in5 (List.mem_of_getElem? (i := 69) rfl)) rfl
set_option maxRecDepth 100000 in
theorem wm_1071 : Cond.methodLink RL 145 yX10_need ∈ pm_tbl := pm_m (lw_in5 (List.mem_of_getElem? (i := 70) rfl)) rfl
set_option maxRecDepth 100000 in
theorem wm_1072 : Cond.instanceMethod yX10_need ∈ pm_tbl := pm_m (lw_in5 (List.mem_of_getElem? (i := 71) rfl)) rfl
set_option maxRecDepth 100000 in
theorem wm_1073 : Cond.selects RX10 yX10_need yX10_need ∈ pm_tbl := pm_m (lw_in5 (List.mem_of_getElem? (i := 72) rfl)) rfl
set_option maxRecDepth 100000 in
theorem wm_1074 : Cond.code yX10_need cX10_need 5 (some .int) ∈ pm_tbl := pm_m (lw_in5 (List.mem_of_getElem? (i := 73) rfl)) rfl
set_option maxRecDepth 100000 in
theorem wm_1075 : Cond.constant RX10 233 (9999999) ∈ pm_tbl := pm_m (lw_in5 (List.mem_of_getElem? (i := 74) rfl)) rfl
set_option maxRecDepth 100000 in
theorem wm_1076 : Cond.methodLink RL 150 yX10_asked ∈ pm_tbl := pm_m (lw_in5 (List.mem_of_getElem? (i := 75) rfl)) rfl
set_option maxRecDepth 100000 in
theorem wm_1077 : Cond.instanceMethod yX10_asked ∈ pm_tbl := pm_m (lw_in5 (List.mem_of_getElem? (i := 76) rfl)) rfl
set_option maxRecDepth 100000 in
theorem wm_1078 : Cond.selects RX10 yX10_asked yX10_asked ∈ pm_tbl := pm_m (lw_in5 (List.mem_of_getElem? (i := 77) rfl)) rfl
set_option maxRecDepth 100000 in
theorem wm_1079 : Cond.code yX10_asked cX10_asked 1 (some .long) ∈ pm_tbl := pm_m (lw_in5 (List.mem_of_getElem? (i := 78) rfl)) rfl
set_option maxRecDepth 100000 in
theorem wm_1080 : Cond.methodLink RL 154 yX10_upper ∈ pm_tbl := pm_m (lw_in5 (List.mem_of_getElem? (i := 79) rfl)) rfl
set_option maxRecDepth 100000 in
theorem wm_1081 : Cond.instanceMethod yX10_upper ∈ pm_tbl := pm_m (lw_in5 (List.mem_of_getElem? (i := 80) rfl)) rfl
set_option maxRecDepth 100000 in
theorem wm_1082 : Cond.selects RX10 yX10_upper yX10_upper ∈ pm_tbl := pm_m (lw_in5 (List.mem_of_getElem? (i := 81) rfl)) rfl
set_option maxRecDepth 100000 in
theorem wm_1083 : Cond.code yX10_upper cX10_upper 1 (some .long) ∈ pm_tbl := pm_m (lw_in5 (List.mem_of_getElem? (i := 82) rfl)) rfl
set_option maxRecDepth 100000 in
theorem wm_1084 : Cond.methodLink RL 158 yX10_lower ∈ pm_tbl := pm_m (lw_in5 (List.mem_of_getElem? (i := 83) rfl)) rfl
set_option maxRecDepth 100000 in
theorem wm_1085 : Cond.instanceMethod yX10_lower ∈ pm_tbl := pm_m (lw_in5 (List.mem_of_getElem? (i := 84) rfl)) rfl
set_option maxRecDepth 100000 in
theorem wm_1086 : Cond.selects RX10 yX10_lower yX10_lower ∈ pm_tbl := pm_m (lw_in5 (List.mem_of_getElem? (i := 85) rfl)) rfl
set_option maxRecDepth 100000 in
theorem wm_1087 : Cond.code yX10_lower cX10_lower 1 (some .long) ∈ pm_tbl := pm_m (lw_in5 (List.mem_of_getElem? (i := 86) rfl)) rfl
set_option maxRecDepth 100000 in
theorem wm_1088 : Cond.methodLink RL 162 yX10_count ∈ pm_tbl := pm_m (lw_in5 (List.mem_of_getElem? (i := 87) rfl)) rfl
set_option maxRecDepth 100000 in
theorem wm_1089 : Cond.instanceMethod yX10_count ∈ pm_tbl := pm_m (lw_in5 (List.mem_of_getElem? (i := 88) rfl)) rfl
set_option maxRecDepth 100000 in
theorem wm_1090 : Cond.selects RX10 yX10_count yX10_count ∈ pm_tbl := pm_m (lw_in5 (List.mem_of_getElem? (i := 89) rfl)) rfl
set_option maxRecDepth 100000 in
theorem wm_1091 : Cond.code yX10_count cX10_count 4 (some .int) ∈ pm_tbl := pm_m (lw_in5 (List.mem_of_getElem? (i := 90) rfl)) rfl
set_option maxRecDepth 100000 in
theorem wm_1092 : Cond.methodLink RL 167 yX10_finding ∈ pm_tbl := pm_m (lw_in5 (List.mem_of_getElem? (i := 91) rfl)) rfl
set_option maxRecDepth 100000 in
theorem wm_1093 : Cond.instanceMethod yX10_finding ∈ pm_tbl := pm_m (lw_in5 (List.mem_of_getElem? (i := 92) rfl)) rfl
set_option maxRecDepth 100000 in
theorem wm_1094 : Cond.selects RX10 yX10_finding yX10_finding ∈ pm_tbl := pm_m (lw_in5 (List.mem_of_getElem? (i := 93) rfl)) rfl
set_option maxRecDepth 100000 in
theorem wm_1095 : Cond.code yX10_finding cX10_finding 1 (some .int) ∈ pm_tbl := pm_m (lw_in5 (List.mem_of_getElem? (i := 94) rfl)) rfl
set_option maxRecDepth 100000 in
theorem wm_1096 : Cond.methodLink RL 171 yX10_findings ∈ pm_tbl := pm_m (lw_in5 (List.mem_of_getElem? (i := 95) rfl)) rfl
set_option maxRecDepth 100000 in
theorem wm_1097 : Cond.instanceMethod yX10_findings ∈ pm_tbl := pm_m (lw_in5 (List.mem_of_getElem? (i := 96) rfl)) rfl
set_option maxRecDepth 100000 in
theorem wm_1098 : Cond.selects RX10 yX10_findings yX10_findings ∈ pm_tbl := pm_m (lw_in5 (List.mem_of_getElem? (i := 97) rfl)) rfl
set_option maxRecDepth 100000 in
theorem wm_1099 : Cond.code yX10_findings cX10_findings 2 (some .int) ∈ pm_tbl := pm_m (lw_in5 (List.mem_of_getElem? (i := 98) rfl)) rfl
set_option maxRecDepth 100000 in
theorem wm_1100 : Cond.methodLink RL 175 yX10_digest ∈ pm_tbl := pm_m (lw_in5 (List.mem_of_getElem? (i := 99) rfl)) rfl
set_option maxRecDepth 100000 in
theorem wm_1101 : Cond.instanceMethod yX10_digest ∈ pm_tbl := pm_m (lw_in5 (List.mem_of_getElem? (i := 100) rfl)) rfl
set_option maxRecDepth 100000 in
theorem wm_1102 : Cond.selects RX10 yX10_digest yX10_digest ∈ pm_tbl := pm_m (lw_in5 (List.mem_of_getElem? (i := 101) rfl)) rfl
set_option maxRecDepth 100000 in
theorem wm_1103 : Cond.code yX10_digest cX10_digest 5 (some .long) ∈ pm_tbl := pm_m (lw_in5 (List.mem_of_getElem? (i := 102) rfl)) rfl
set_option maxRecDepth 100000 in
theorem wm_1104 : Cond.constantLong RX10 234 (17) ∈ pm_tbl := pm_m (lw_in5 (List.mem_of_getElem? (i := 103) rfl)) rfl
set_option maxRecDepth 100000 in
theorem wm_1105 : Cond.constantLong RX10 236 (31) ∈ pm_tbl := pm_m (lw_in5 (List.mem_of_getElem? (i := 104) rfl)) rfl
set_option maxRecDepth 100000 in
theorem wm_1106 : Cond.constantLong RL 56 (4294967295) ∈ pm_tbl := pm_m (lw_in5 (List.mem_of_getElem? (i := 105) rfl)) rfl
set_option maxRecDepth 100000 in
theorem wm_1111 : Cond.castable RX7 RX6 ∈ pm_tbl := pm_m (lw_in5 (List.mem_of_getElem? (i := 110) rfl)) rfl
set_option maxRecDepth 100000 in
theorem wm_1112 : Cond.castable RX2 RX1 ∈ pm_tbl := pm_m (lw_in5 (List.mem_of_getElem? (i := 111) rfl)) rfl
set_option maxRecDepth 100000 in
theorem wm_1113 : Cond.castable RX6 RX1 ∈ pm_tbl := pm_m (lw_in5 (List.mem_of_getElem? (i := 112) rfl)) rfl
set_option maxRecDepth 100000 in
theorem wm_1114 : Cond.castable RX7 RX1 ∈ pm_tbl := pm_m (lw_in5 (List.mem_of_getElem? (i := 113) rfl)) rfl
set_option maxRecDepth 100000 in
theorem wm_1115 : Cond.selects RX7 yX6_rest yX6_rest ∈ pm_tbl := pm_mx (List.mem_of_getElem? (i := 0) rfl) rfl
set_option maxRecDepth 100000 in
theorem wm_1116 : Cond.selects RX7 yX6_partHeaps yX6_partHeaps ∈ pm_tbl := pm_mx (List.mem_of_getElem? (i := 1) rfl) rfl
set_option maxRecDepth 100000 in
theorem wm_1117 : Cond.selects RX7 yX6_sharesOf yX6_sharesOf ∈ pm_tbl := pm_mx (List.mem_of_getElem? (i := 2) rfl) rfl
set_option maxRecDepth 100000 in
theorem wm_1118 : Cond.selects RX7 yX6_partHeap yX6_partHeap ∈ pm_tbl := pm_mx (List.mem_of_getElem? (i := 3) rfl) rfl
set_option maxRecDepth 100000 in
theorem inX0 : ∀ w ∈ u_ws RX0 TX0 2, w ∈ pm_tbl := by decide +kernel
theorem s0_bytes : pm_S 0 0 (RX0, "bytes", "[B") true (.array .byte) := ⟨RX0, TX0, 2, tyX0, rfl, by decide, rfl, inX0, by decide +kernel, tyX0_ok, nmX0⟩
theorem s0_size : pm_S 0 1 (RX0, "size", "I") false (.int) := ⟨RX0, TX0, 2, tyX0, rfl, by decide, rfl, inX0, by decide +kernel, tyX0_ok, nmX0⟩
set_option maxRecDepth 100000 in
theorem inX1 : ∀ w ∈ u_ws RX1 TX1 0, w ∈ pm_tbl := by decide +kernel
set_option maxRecDepth 100000 in
theorem inX2 : ∀ w ∈ u_ws RX2 TX2 0, w ∈ pm_tbl := by decide +kernel
set_option maxRecDepth 100000 in
theorem inX3 : ∀ w ∈ u_ws RX3 TX3 1, w ∈ pm_tbl := by decide +kernel
theorem s3_lines : pm_S 3 0 (RX3, "lines", "[I") true (.array .int) := ⟨RX3, TX3, 1, tyX3, rfl, by decide, rfl, inX3, by decide +kernel, tyX3_ok, nmX3⟩
set_option maxRecDepth 100000 in
theorem inX4 : ∀ w ∈ u_ws RX4 TX4 4, w ∈ pm_tbl := by decide +kernel
theorem s4_weights : pm_S 4 0 (RX4, "weights", "[J") true (.array .long) := ⟨RX4, TX4, 4, tyX4, rfl, by decide, rfl, inX4, by decide +kernel, tyX4_ok, nmX4⟩
theorem s4_heaps : pm_S 4 1 (RX4, "heaps", "[J") true (.array .long) := ⟨RX4, TX4, 4, tyX4, rfl, by decide, rfl, inX4, by decide +kernel, tyX4_ok, nmX4⟩
theorem s4_nextHeaps : pm_S 4 2 (RX4, "nextHeaps", "[J") true (.array .long) := ⟨RX4, TX4, 4, tyX4, rfl, by decide, rfl, inX4, by decide +kernel, tyX4_ok, nmX4⟩
theorem s4_all : pm_S 4 3 (RX4, "all", "J") false (.long) := ⟨RX4, TX4, 4, tyX4, rfl, by decide, rfl, inX4, by decide +kernel, tyX4_ok, nmX4⟩
set_option maxRecDepth 100000 in
theorem inX5 : ∀ w ∈ u_ws RX5 TX5 1, w ∈ pm_tbl := by decide +kernel
theorem s5_s : pm_S 5 0 (RX5, "s", "J") false (.long) := ⟨RX5, TX5, 1, tyX5, rfl, by decide, rfl, inX5, by decide +kernel, tyX5_ok, nmX5⟩
set_option maxRecDepth 100000 in
theorem inX6 : ∀ w ∈ u_ws RX6 TX6 3, w ∈ pm_tbl := by decide +kernel
theorem s6_bundle : pm_S 6 0 (RX6, "bundle", "I") true (.int) := ⟨RX6, TX6, 3, tyX6, rfl, by decide, rfl, inX6, by decide +kernel, tyX6_ok, nmX6⟩
theorem s6_by : pm_S 6 1 (RX6, "by", "I") true (.int) := ⟨RX6, TX6, 3, tyX6, rfl, by decide, rfl, inX6, by decide +kernel, tyX6_ok, nmX6⟩
theorem s6_fingers : pm_S 6 2 (RX6, "fingers", "I") true (.int) := ⟨RX6, TX6, 3, tyX6, rfl, by decide, rfl, inX6, by decide +kernel, tyX6_ok, nmX6⟩
set_option maxRecDepth 100000 in
theorem inX7 : ∀ w ∈ u_ws RX7 TX7 5, w ∈ pm_tbl := by decide +kernel
theorem s7_bundle : pm_S 7 0 (RX6, "bundle", "I") true (.int) := ⟨RX7, TX7, 5, tyX7, rfl, by decide, rfl, inX7, by decide +kernel, tyX7_ok, nmX7⟩
theorem s7_by : pm_S 7 1 (RX6, "by", "I") true (.int) := ⟨RX7, TX7, 5, tyX7, rfl, by decide, rfl, inX7, by decide +kernel, tyX7_ok, nmX7⟩
theorem s7_fingers : pm_S 7 2 (RX6, "fingers", "I") true (.int) := ⟨RX7, TX7, 5, tyX7, rfl, by decide, rfl, inX7, by decide +kernel, tyX7_ok, nmX7⟩
theorem s7_lo : pm_S 7 3 (RX7, "lo", "I") true (.int) := ⟨RX7, TX7, 5, tyX7, rfl, by decide, rfl, inX7, by decide +kernel, tyX7_ok, nmX7⟩
theorem s7_hi : pm_S 7 4 (RX7, "hi", "I") true (.int) := ⟨RX7, TX7, 5, tyX7, rfl, by decide, rfl, inX7, by decide +kernel, tyX7_ok, nmX7⟩
set_option maxRecDepth 100000 in
theorem inX8 : ∀ w ∈ u_ws RX8 TX8 5, w ∈ pm_tbl := by decide +kernel
theorem s8_waiting : pm_S 8 0 (RX8, "waiting", "[I") true (.array .int) := ⟨RX8, TX8, 5, tyX8, rfl, by decide, rfl, inX8, by decide +kernel, tyX8_ok, nmX8⟩
theorem s8_before : pm_S 8 1 (RX8, "before", "[I") true (.array .int) := ⟨RX8, TX8, 5, tyX8, rfl, by decide, rfl, inX8, by decide +kernel, tyX8_ok, nmX8⟩
theorem s8_metBy : pm_S 8 2 (RX8, "metBy", "[I") true (.array .int) := ⟨RX8, TX8, 5, tyX8, rfl, by decide, rfl, inX8, by decide +kernel, tyX8_ok, nmX8⟩
theorem s8_acts : pm_S 8 3 (RX8, "acts", "[I") true (.array .int) := ⟨RX8, TX8, 5, tyX8, rfl, by decide, rfl, inX8, by decide +kernel, tyX8_ok, nmX8⟩
theorem s8_actCount : pm_S 8 4 (RX8, "actCount", "I") false (.int) := ⟨RX8, TX8, 5, tyX8, rfl, by decide, rfl, inX8, by decide +kernel, tyX8_ok, nmX8⟩
set_option maxRecDepth 100000 in
theorem inX9 : ∀ w ∈ u_ws RX9 TX9 15, w ∈ pm_tbl := by decide +kernel
theorem s9_casters : pm_S 9 0 (RX9, "casters", "[LStalkRoom$Caster;") true (.array (.object "StalkRoom$Caster")) := ⟨RX9, TX9, 15, tyX9, rfl, by decide, rfl, inX9, by decide +kernel, tyX9_ok, nmX9⟩
theorem s9_casterCount : pm_S 9 1 (RX9, "casterCount", "I") false (.int) := ⟨RX9, TX9, 15, tyX9, rfl, by decide, rfl, inX9, by decide +kernel, tyX9_ok, nmX9⟩
theorem s9_figures : pm_S 9 2 (RX9, "figures", "[LStalkRoom$Figure;") true (.array (.object "StalkRoom$Figure")) := ⟨RX9, TX9, 15, tyX9, rfl, by decide, rfl, inX9, by decide +kernel, tyX9_ok, nmX9⟩
theorem s9_spare : pm_S 9 3 (RX9, "spare", "LStalkRoom$Figure;") true (.object "StalkRoom$Figure") := ⟨RX9, TX9, 15, tyX9, rfl, by decide, rfl, inX9, by decide +kernel, tyX9_ok, nmX9⟩
theorem s9_rows : pm_S 9 4 (RX9, "rows", "[LStalkRoom$ByteRow;") true (.array (.object "StalkRoom$ByteRow")) := ⟨RX9, TX9, 15, tyX9, rfl, by decide, rfl, inX9, by decide +kernel, tyX9_ok, nmX9⟩
theorem s9_finder : pm_S 9 5 (RX9, "finder", "LStalkRoom$WayFinder;") true (.object "StalkRoom$WayFinder") := ⟨RX9, TX9, 15, tyX9, rfl, by decide, rfl, inX9, by decide +kernel, tyX9_ok, nmX9⟩
theorem s9_seed : pm_S 9 6 (RX9, "seed", "LStalkRoom$Seed;") true (.object "StalkRoom$Seed") := ⟨RX9, TX9, 15, tyX9, rfl, by decide, rfl, inX9, by decide +kernel, tyX9_ok, nmX9⟩
theorem s9_odds : pm_S 9 7 (RX9, "odds", "LStalkRoom$Odds;") true (.object "StalkRoom$Odds") := ⟨RX9, TX9, 15, tyX9, rfl, by decide, rfl, inX9, by decide +kernel, tyX9_ok, nmX9⟩
theorem s9_parts : pm_S 9 8 (RX9, "parts", "[I") true (.array .int) := ⟨RX9, TX9, 15, tyX9, rfl, by decide, rfl, inX9, by decide +kernel, tyX9_ok, nmX9⟩
theorem s9_otherParts : pm_S 9 9 (RX9, "otherParts", "[I") true (.array .int) := ⟨RX9, TX9, 15, tyX9, rfl, by decide, rfl, inX9, by decide +kernel, tyX9_ok, nmX9⟩
theorem s9_findingTimes : pm_S 9 10 (RX9, "findingTimes", "[I") true (.array .int) := ⟨RX9, TX9, 15, tyX9, rfl, by decide, rfl, inX9, by decide +kernel, tyX9_ok, nmX9⟩
theorem s9_latestFinding : pm_S 9 11 (RX9, "latestFinding", "I") false (.int) := ⟨RX9, TX9, 15, tyX9, rfl, by decide, rfl, inX9, by decide +kernel, tyX9_ok, nmX9⟩
theorem s9_lastAsked : pm_S 9 12 (RX9, "lastAsked", "J") false (.long) := ⟨RX9, TX9, 15, tyX9, rfl, by decide, rfl, inX9, by decide +kernel, tyX9_ok, nmX9⟩
theorem s9_fractionUpper : pm_S 9 13 (RX9, "fractionUpper", "J") false (.long) := ⟨RX9, TX9, 15, tyX9, rfl, by decide, rfl, inX9, by decide +kernel, tyX9_ok, nmX9⟩
theorem s9_fractionLower : pm_S 9 14 (RX9, "fractionLower", "J") false (.long) := ⟨RX9, TX9, 15, tyX9, rfl, by decide, rfl, inX9, by decide +kernel, tyX9_ok, nmX9⟩
set_option maxRecDepth 100000 in
theorem inX10 : ∀ w ∈ u_ws RX10 TX10 33, w ∈ pm_tbl := by decide +kernel
theorem s10_finding : pm_S 10 0 (RX10, "finding", "I") false (.int) := ⟨RX10, TX10, 33, tyX10, rfl, by decide, rfl, inX10, by decide +kernel, tyX10_ok, nmX10⟩
theorem s10_findings : pm_S 10 1 (RX10, "findings", "[I") true (.array .int) := ⟨RX10, TX10, 33, tyX10, rfl, by decide, rfl, inX10, by decide +kernel, tyX10_ok, nmX10⟩
theorem s10_asked : pm_S 10 2 (RX10, "asked", "J") false (.long) := ⟨RX10, TX10, 33, tyX10, rfl, by decide, rfl, inX10, by decide +kernel, tyX10_ok, nmX10⟩
theorem s10_upper : pm_S 10 3 (RX10, "upper", "J") false (.long) := ⟨RX10, TX10, 33, tyX10, rfl, by decide, rfl, inX10, by decide +kernel, tyX10_ok, nmX10⟩
theorem s10_lower : pm_S 10 4 (RX10, "lower", "J") false (.long) := ⟨RX10, TX10, 33, tyX10, rfl, by decide, rfl, inX10, by decide +kernel, tyX10_ok, nmX10⟩
theorem s10_casters : pm_S 10 5 (RX10, "casters", "I") false (.int) := ⟨RX10, TX10, 33, tyX10, rfl, by decide, rfl, inX10, by decide +kernel, tyX10_ok, nmX10⟩
theorem s10_kinds : pm_S 10 6 (RX10, "kinds", "[I") true (.array .int) := ⟨RX10, TX10, 33, tyX10, rfl, by decide, rfl, inX10, by decide +kernel, tyX10_ok, nmX10⟩
theorem s10_sticks : pm_S 10 7 (RX10, "sticks", "[I") true (.array .int) := ⟨RX10, TX10, 33, tyX10, rfl, by decide, rfl, inX10, by decide +kernel, tyX10_ok, nmX10⟩
theorem s10_counts : pm_S 10 8 (RX10, "counts", "[I") true (.array .int) := ⟨RX10, TX10, 33, tyX10, rfl, by decide, rfl, inX10, by decide +kernel, tyX10_ok, nmX10⟩
theorem s10_hasFinger : pm_S 10 9 (RX10, "hasFinger", "[Z") true (.array .boolean) := ⟨RX10, TX10, 33, tyX10, rfl, by decide, rfl, inX10, by decide +kernel, tyX10_ok, nmX10⟩
theorem s10_lows : pm_S 10 10 (RX10, "lows", "[I") true (.array .int) := ⟨RX10, TX10, 33, tyX10, rfl, by decide, rfl, inX10, by decide +kernel, tyX10_ok, nmX10⟩
theorem s10_highs : pm_S 10 11 (RX10, "highs", "[I") true (.array .int) := ⟨RX10, TX10, 33, tyX10, rfl, by decide, rfl, inX10, by decide +kernel, tyX10_ok, nmX10⟩
theorem s10_ups : pm_S 10 12 (RX10, "ups", "[J") true (.array .long) := ⟨RX10, TX10, 33, tyX10, rfl, by decide, rfl, inX10, by decide +kernel, tyX10_ok, nmX10⟩
theorem s10_lowers : pm_S 10 13 (RX10, "lowers", "[J") true (.array .long) := ⟨RX10, TX10, 33, tyX10, rfl, by decide, rfl, inX10, by decide +kernel, tyX10_ok, nmX10⟩
theorem s10_nextUps : pm_S 10 14 (RX10, "nextUps", "[J") true (.array .long) := ⟨RX10, TX10, 33, tyX10, rfl, by decide, rfl, inX10, by decide +kernel, tyX10_ok, nmX10⟩
theorem s10_nextLowers : pm_S 10 15 (RX10, "nextLowers", "[J") true (.array .long) := ⟨RX10, TX10, 33, tyX10, rfl, by decide, rfl, inX10, by decide +kernel, tyX10_ok, nmX10⟩
theorem s10_oddsUp : pm_S 10 16 (RX10, "oddsUp", "[J") true (.array .long) := ⟨RX10, TX10, 33, tyX10, rfl, by decide, rfl, inX10, by decide +kernel, tyX10_ok, nmX10⟩
theorem s10_oddsLow : pm_S 10 17 (RX10, "oddsLow", "[J") true (.array .long) := ⟨RX10, TX10, 33, tyX10, rfl, by decide, rfl, inX10, by decide +kernel, tyX10_ok, nmX10⟩
theorem s10_sumUp : pm_S 10 18 (RX10, "sumUp", "J") false (.long) := ⟨RX10, TX10, 33, tyX10, rfl, by decide, rfl, inX10, by decide +kernel, tyX10_ok, nmX10⟩
theorem s10_sumLow : pm_S 10 19 (RX10, "sumLow", "J") false (.long) := ⟨RX10, TX10, 33, tyX10, rfl, by decide, rfl, inX10, by decide +kernel, tyX10_ok, nmX10⟩
theorem s10_seed : pm_S 10 20 (RX10, "seed", "J") false (.long) := ⟨RX10, TX10, 33, tyX10, rfl, by decide, rfl, inX10, by decide +kernel, tyX10_ok, nmX10⟩
theorem s10_figures : pm_S 10 21 (RX10, "figures", "[I") true (.array .int) := ⟨RX10, TX10, 33, tyX10, rfl, by decide, rfl, inX10, by decide +kernel, tyX10_ok, nmX10⟩
theorem s10_six : pm_S 10 22 (RX10, "six", "[I") true (.array .int) := ⟨RX10, TX10, 33, tyX10, rfl, by decide, rfl, inX10, by decide +kernel, tyX10_ok, nmX10⟩
theorem s10_far : pm_S 10 23 (RX10, "far", "[I") true (.array .int) := ⟨RX10, TX10, 33, tyX10, rfl, by decide, rfl, inX10, by decide +kernel, tyX10_ok, nmX10⟩
theorem s10_steps : pm_S 10 24 (RX10, "steps", "I") false (.int) := ⟨RX10, TX10, 33, tyX10, rfl, by decide, rfl, inX10, by decide +kernel, tyX10_ok, nmX10⟩
theorem s10_stepRow : pm_S 10 25 (RX10, "stepRow", "[I") true (.array .int) := ⟨RX10, TX10, 33, tyX10, rfl, by decide, rfl, inX10, by decide +kernel, tyX10_ok, nmX10⟩
theorem s10_sizes : pm_S 10 26 (RX10, "sizes", "[I") true (.array .int) := ⟨RX10, TX10, 33, tyX10, rfl, by decide, rfl, inX10, by decide +kernel, tyX10_ok, nmX10⟩
theorem s10_rows : pm_S 10 27 (RX10, "rows", "[I") true (.array .int) := ⟨RX10, TX10, 33, tyX10, rfl, by decide, rfl, inX10, by decide +kernel, tyX10_ok, nmX10⟩
theorem s10_moving : pm_S 10 28 (RX10, "moving", "[I") true (.array .int) := ⟨RX10, TX10, 33, tyX10, rfl, by decide, rfl, inX10, by decide +kernel, tyX10_ok, nmX10⟩
theorem s10_times : pm_S 10 29 (RX10, "times", "[I") true (.array .int) := ⟨RX10, TX10, 33, tyX10, rfl, by decide, rfl, inX10, by decide +kernel, tyX10_ok, nmX10⟩
theorem s10_counted : pm_S 10 30 (RX10, "counted", "I") false (.int) := ⟨RX10, TX10, 33, tyX10, rfl, by decide, rfl, inX10, by decide +kernel, tyX10_ok, nmX10⟩
theorem s10_shares : pm_S 10 31 (RX10, "shares", "[I") true (.array .int) := ⟨RX10, TX10, 33, tyX10, rfl, by decide, rfl, inX10, by decide +kernel, tyX10_ok, nmX10⟩
theorem s10_held : pm_S 10 32 (RX10, "held", "[I") true (.array .int) := ⟨RX10, TX10, 33, tyX10, rfl, by decide, rfl, inX10, by decide +kernel, tyX10_ok, nmX10⟩
end
